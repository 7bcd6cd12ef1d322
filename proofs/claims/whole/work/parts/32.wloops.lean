theorem fst_or (q : Nat → Bool) (k i : Nat) : fst' q k i = -10 ∨ ∃ j, i ≤ j ∧ j < i + k ∧ fst' q k i = nI j := by
  induction k generalizing i with
  | zero => exact Or.inl rfl
  | succ k ih =>
    unfold fst'
    by_cases h : q i = true
    · rw [if_pos h]; exact Or.inr ⟨i, Nat.le_refl i, by omega, rfl⟩
    · rw [if_neg h]
      rcases ih (i + 1) with e | ⟨j, h1, h2, h3⟩
      · exact Or.inl e
      · exact Or.inr ⟨j, by omega, by omega, h3⟩
theorem nI_n10 {j : Nat} (h : j < 2 ^ 31) : ¬ nI j = -10 := fun e => by
  have := congrArg Int32.toInt e
  rw [nI_toInt h, show (-10 : Int32).toInt = -10 by decide] at this
  omega
set_option maxHeartbeats 4000000 in
set_option maxRecDepth 100000 in
theorem c_MB_isSought2 (l : Launch) {D : va_G} {cI cZ cO cL : ClassId} {b e0 : Nat} {A : gW} {h ra ia sa ua nb : Nat} {mv : Int32} {bu : List Pr} (fB : A (0, 0) = some (h, .inr (0, [.ref ra, .ref ia, .ref sa, .ref ua, .int mv]))) (hBu : rMa cI A nb ua bu) {j h2 : Nat} {t : It} (hi : rIn A j h2 t) (b3 : iMk t < 4) (b4 : iMt t < 8) {mk mt : Nat} (b1 : mk < 4) (b2 : mt < 8) : Met l y_MB_isSought (Cond.code y_MB_isSought b_MB_isSought 4 (some .boolean) :: TT) ({ frames := 3, cells := 0, slots := 0, locals := 66 }) (va_Pc [.ref h, .ref h2, .int (nI mk), .int (nI mt)] (gI D [(cI, .int), (cZ, .boolean), (cO, .object "java/lang/Object"), (cL, .long)] b e0 A)) (vp_Si (fun z => z = bI (iAsk bu mk mt t))) 0 0 (fun _ => False) := by
  refine Met.ofG (own := R_MB) (by decide +kernel) rfl (Nat.le_of_ble_eq_true rfl) ?_
  intro p e s m below meth c ls hx hb hr hlk hml hown hnm hts hI hl
  have hl : lv_has ls 4 [(0, .ref h), (1, .ref h2), (2, .int (nI mk)), (3, .int (nI mt))] := hl
  obtain ⟨hP, hK⟩ := hI
  obtain ⟨hk, hv, fk, fv, fM, fK, fV, hn3, hms⟩ := id hBu
  refine lv_aload_n hx hb d_MB_isSought_0 rfl (lv_at hl 1 rfl) ?_
  refine g_get hx hb hts i_In hown hK.1 hP hi rfl 10 (by decide) (hts _ k_294) (fun _ h9 => h9) rfl d_MB_isSought_1 ?_
  refine lv_if_eq (tgt := 38) hx hb d_MB_isSought_4 (by decide) (fun c1 => ?_) (fun c1 => ?_)
  · skip
    rw [bI_0] at c1
    refine lv_iconst (v := 0) hx hb d_MB_isSought_38 (by decide) ?_
    exact W.zret hx hb hr rfl (fun t ht _ => ⟨_, rfl, (by simp_all [iAsk, bI]), ht⟩) (fun _ h => nomatch h) d_MB_isSought_39
  · skip
    rw [bI_0] at c1
    refine lv_aload_n hx hb d_MB_isSought_7 rfl (lv_at hl 1 rfl) ?_
    refine g_get hx hb hts i_In hown hK.1 hP hi rfl 0 (by decide) (hts _ k_273) (fun _ h9 => h9) rfl d_MB_isSought_8 ?_
    refine lv_iload_n hx hb d_MB_isSought_11 rfl (lv_at hl 2 rfl) ?_
    refine lv_icmp_ne (tgt := 38) hx hb d_MB_isSought_12 (by decide) (fun c2 => ?_) (fun c2 => ?_)
    · skip
      replace c2 : ¬ iMk t = mk := fun q => c2 ((nI_eq (a := iMk t) (b := mk) (by omega) (by omega)).mpr q)
      refine lv_iconst (v := 0) hx hb d_MB_isSought_38 (by decide) ?_
      exact W.zret hx hb hr rfl (fun t ht _ => ⟨_, rfl, (by simp_all [iAsk, bI]), ht⟩) (fun _ h => nomatch h) d_MB_isSought_39
    · skip
      replace c2 : iMk t = mk := (nI_eq (a := iMk t) (b := mk) (by omega) (by omega)).mp c2
      refine lv_aload_n hx hb d_MB_isSought_15 rfl (lv_at hl 1 rfl) ?_
      refine g_get hx hb hts i_In hown hK.1 hP hi rfl 1 (by decide) (hts _ k_276) (fun _ h9 => h9) rfl d_MB_isSought_16 ?_
      refine lv_iload_n hx hb d_MB_isSought_19 rfl (lv_at hl 3 rfl) ?_
      refine lv_icmp_ne (tgt := 38) hx hb d_MB_isSought_20 (by decide) (fun c3 => ?_) (fun c3 => ?_)
      · skip
        replace c3 : ¬ iMt t = mt := fun q => c3 ((nI_eq (a := iMt t) (b := mt) (by omega) (by omega)).mpr q)
        refine lv_iconst (v := 0) hx hb d_MB_isSought_38 (by decide) ?_
        exact W.zret hx hb hr rfl (fun t ht _ => ⟨_, rfl, (by simp_all [iAsk, bI]), ht⟩) (fun _ h => nomatch h) d_MB_isSought_39
      · skip
        replace c3 : iMt t = mt := (nI_eq (a := iMt t) (b := mt) (by omega) (by omega)).mp c3
        refine lv_aload_n hx hb d_MB_isSought_23 rfl (lv_at hl 0 rfl) ?_
        refine g_get hx hb hts i_MB hown hK.1 hP fB rfl 3 (by decide) (hts _ k_71) (fun _ h9 => h9) rfl d_MB_isSought_24 ?_
        refine lv_aload_n hx hb d_MB_isSought_27 rfl (lv_at hl 1 rfl) ?_
        refine g_ri (g_runV (As := [.ref h2]) (rest := []) ⟨hx, hb, hml, hown, hts⟩ (c_Ma_fit l hBu hi) st_Ma_fit k_369 ⟨rfl, rfl, by decide, by decide⟩ rfl (gI.preV hK va_S.rf hP fM rfl _) rfl hl.1 rfl (Nat.le_of_ble_eq_true rfl) d_MB_isSought_28 ⟨by decide, by decide⟩) (fun r4 hr4 => ?_)
        subst hr4
        refine lv_if_eq (tgt := 38) hx hb d_MB_isSought_31 (by decide) (fun c5 => ?_) (fun c5 => ?_)
        · skip
          rw [bI_0] at c5
          refine lv_iconst (v := 0) hx hb d_MB_isSought_38 (by decide) ?_
          exact W.zret hx hb hr rfl (fun t ht _ => ⟨_, rfl, (by simp_all [iAsk, bI]), ht⟩) (fun _ h => nomatch h) d_MB_isSought_39
        · skip
          rw [bI_0] at c5
          refine lv_iconst (v := 1) hx hb d_MB_isSought_34 (by decide) ?_
          refine lv_goto (tgt := 39) hx hb d_MB_isSought_35 (by decide) ?_
          exact W.zret hx hb hr rfl (fun t ht _ => ⟨_, rfl, (by simp_all [iAsk, bI]), ht⟩) (fun _ h => nomatch h) d_MB_isSought_39
set_option maxHeartbeats 4000000 in
set_option maxRecDepth 100000 in
theorem c_MB_verifySought (l : Launch) {D : va_G} {cI cZ cO cL : ClassId} {b e0 : Nat} {A : gW} {h ra ia sa ua : Nat} {aR aI aM : Nat → Nat} {fs : Nat → Int32} {σ : Bk} (hQ : rBq cI cZ cO e0 A h ra ia sa ua aR aI aM fs σ) (hl160 : (kIs σ).length ≤ 160) (hwI : ∀ i, i < (kIs σ).length → wfI ((kIs σ).getD i i0)) {mk mt : Nat} (b1 : mk < 4) (b2 : mt < 8) : Met l y_MB_verifySought (Cond.code y_MB_verifySought b_MB_verifySought 5 none :: TT) ({ frames := 4, cells := 0, slots := 0, locals := 89 }) (va_Pc [.ref h, .int (nI mk), .int (nI mt)] (gI D [(cI, .int), (cZ, .boolean), (cO, .object "java/lang/Object"), (cL, .long)] b e0 A)) (va_Qv (fun A2 : gW => rBq cI cZ cO e0 A2 h ra ia sa ua aR aI aM fs (kRs σ, (kIs σ).map (gVer (kBu σ) mk mt), kSt σ, kBu σ, kMk σ) ∧ gO A A2) (fun A2 t => gP D classes b A2 t.heap) (fun q => b ≤ q)) 0 0 (fun q => b ≤ q) := by
  refine Met.ofG (own := R_MB) (by decide +kernel) rfl (Nat.le_of_ble_eq_true rfl) ?_
  intro p e s m below meth c ls hx hb hr hlk hml hown hnm hts hI hl
  have hl : lv_has ls 5 [(0, .ref h), (1, .int (nI mk)), (2, .int (nI mt))] := hl
  have hS : gS b s.heap s.heap [] := va_S.rf
  obtain ⟨hP, hK⟩ := hI
  refine lv_iconst (v := 0) hx hb d_MB_verifySought_0 (by decide) ?_
  refine lv_istore_n (lv' := [(3, .int 0), (0, .ref h), (1, .int (nI mk)), (2, .int (nI mt))]) hx hb d_MB_verifySought_1 rfl hl (by decide) rfl (fun ls hl => ?_)
  obtain ⟨i, hi0⟩ : ∃ z : Nat, z = 0 := ⟨_, rfl⟩
  obtain ⟨B, hB0⟩ : ∃ z : gW, z = A := ⟨_, rfl⟩
  obtain ⟨H, hH0⟩ : ∃ z : Heap, z = s.heap := ⟨_, rfl⟩
  obtain ⟨locs, hlo0⟩ : ∃ z : List Loc, z = [] := ⟨_, rfl⟩
  obtain ⟨n, hn⟩ : ∃ z : Nat, i + z = (kIs σ).length := ⟨(kIs σ).length - i, by omega⟩
  replace hl : lv_has ls 5 [(3, .int (nI i)), (0, .ref h), (1, .int (nI mk)), (2, .int (nI mt))] := by rw [hi0, nI_0]; exact hl
  replace hP : gP D classes b B H := by rw [hB0, hH0]; exact hP
  replace hS : gS b s.heap H locs := by rw [hH0, hlo0]; exact hS
  have hQi : rBq cI cZ cO e0 B h ra ia sa ua aR aI aM fs (kRs σ, upT (gVer (kBu σ) mk mt) i (kIs σ), kSt σ, kBu σ, kMk σ) := by rw [hB0, hi0]; exact hQ
  have hgo : gO A B := by rw [hB0]; exact gO.rf
  rw [← hH0, ← hlo0]
  clear hi0 hB0 hH0 hlo0
  induction n generalizing i B H locs ls with
  | zero =>
    obtain ⟨fB, hLR, hLI, fS, hfs, hBu, hRs, hIs⟩ := id hQi
    have hlen : (upT (gVer (kBu σ) mk mt) i (kIs σ)).length = (kIs σ).length := upT_len _ _ _
    replace hLI : rAL cO e0 B 1 11 3 ia (kIs σ).length aI := by rw [← hlen]; exact hLI
    replace hIs : ∀ j, j < (kIs σ).length → rIn B j (aI j) ((upT (gVer (kBu σ) mk mt) i (kIs σ)).getD j i0) := fun j hj => hIs j (by show j < (upT (gVer (kBu σ) mk mt) i (kIs σ)).length; rw [hlen]; exact hj)
    obtain ⟨moI, qI, capI, efI, fLI, -⟩ := id hLI
    refine lv_iload_n hx hb d_MB_verifySought_2 rfl (lv_at hl 0 rfl) ?_
    refine lv_aload_n hx hb d_MB_verifySought_3 rfl (lv_at hl 1 rfl) ?_
    refine g_get hx hb hts i_MB hown hK.1 hP fB rfl 1 (by decide) (hts _ k_69) (fun _ h9 => h9) rfl d_MB_verifySought_4 ?_
    refine g_ri (g_runV (As := []) (rest := [.int (nI i)]) ⟨hx, hb, hml, hown, hts⟩ (c_AL_size l hLI) st_AL_size k_120 ⟨rfl, rfl, by decide, by decide⟩ rfl (gI.preV hK hS hP fLI rfl _) rfl hl.1 rfl (Nat.le_of_ble_eq_true rfl) d_MB_verifySought_7 ⟨by decide, by decide⟩) (fun r1 hr1 => ?_)
    subst hr1
    refine lv_icmp_ge (tgt := 49) hx hb d_MB_verifySought_10 (by decide) (fun _ => ?_) (fun h9 => absurd (nI_le (show (kIs σ).length ≤ i by omega) (by omega)) h9)
    refine W.widen (k := 0) (n := 0) (by decide) (by decide) ?_
    exact W.vret hx hb hr (fun t ht _ => ⟨⟨B, rfl, ⟨(by rw [← upT_all (gVer (kBu σ) mk mt) (i := i) _ (show (kIs σ).length ≤ i by omega)]; exact hQi), hgo⟩, show gP D classes b B t.heap by rw [ht]; exact hP⟩, hS.F ht⟩) hS.2.2 d_MB_verifySought_49
  | succ n ih =>
    obtain ⟨fB, hLR, hLI, fS, hfs, hBu, hRs, hIs⟩ := id hQi
    have hlen : (upT (gVer (kBu σ) mk mt) i (kIs σ)).length = (kIs σ).length := upT_len _ _ _
    replace hLI : rAL cO e0 B 1 11 3 ia (kIs σ).length aI := by rw [← hlen]; exact hLI
    replace hIs : ∀ j, j < (kIs σ).length → rIn B j (aI j) ((upT (gVer (kBu σ) mk mt) i (kIs σ)).getD j i0) := fun j hj => hIs j (by show j < (upT (gVer (kBu σ) mk mt) i (kIs σ)).length; rw [hlen]; exact hj)
    obtain ⟨moI, qI, capI, efI, fLI, -⟩ := id hLI
    refine lv_iload_n hx hb d_MB_verifySought_2 rfl (lv_at hl 0 rfl) ?_
    refine lv_aload_n hx hb d_MB_verifySought_3 rfl (lv_at hl 1 rfl) ?_
    refine g_get hx hb hts i_MB hown hK.1 hP fB rfl 1 (by decide) (hts _ k_69) (fun _ h9 => h9) rfl d_MB_verifySought_4 ?_
    refine g_ri (g_runV (As := []) (rest := [.int (nI i)]) ⟨hx, hb, hml, hown, hts⟩ (c_AL_size l hLI) st_AL_size k_120 ⟨rfl, rfl, by decide, by decide⟩ rfl (gI.preV hK hS hP fLI rfl _) rfl hl.1 rfl (Nat.le_of_ble_eq_true rfl) d_MB_verifySought_7 ⟨by decide, by decide⟩) (fun r3 hr3 => ?_)
    subst hr3
    refine lv_icmp_ge (tgt := 49) hx hb d_MB_verifySought_10 (by decide) (fun h9 => absurd h9 (nI_ge (show i < (kIs σ).length by omega) (by omega))) (fun _ => ?_)
    refine lv_aload_n hx hb d_MB_verifySought_13 rfl (lv_at hl 1 rfl) ?_
    refine g_get hx hb hts i_MB hown hK.1 hP fB rfl 1 (by decide) (hts _ k_69) (fun _ h9 => h9) rfl d_MB_verifySought_14 ?_
    refine lv_iload_n hx hb d_MB_verifySought_17 rfl (lv_at hl 0 rfl) ?_
    refine g_rr (g_runV (As := [.int (nI i)]) (rest := []) ⟨hx, hb, hml, hown, hts⟩ (c_AL_get l hLI (i := i) (by omega)) st_AL_get k_222 ⟨rfl, rfl, by decide, by decide⟩ rfl (gI.preV hK hS hP fLI rfl _) rfl hl.1 rfl (Nat.le_of_ble_eq_true rfl) d_MB_verifySought_18 ⟨by decide, by decide⟩) ?_
    obtain ⟨t5, ht5⟩ : ∃ z, z = (kIs σ).getD i i0 := ⟨_, rfl⟩
    have ft5 : rIn B i (aI i) t5 := by rw [ht5, ← upT_get _ _ _ (Nat.le_refl i)]; exact hIs i (by omega)
    obtain ⟨bt51, bt52⟩ : wfI t5 := by rw [ht5]; exact hwI i (by omega)
    refine va_castY (C := R_In) hx hb hown (hts _ k_263) (hK.2.1 _ (List.mem_of_getElem? (i := 6) rfl)) (va_recv (q0 := 0) hK.1 (hP.one ft5) rfl rfl) d_MB_verifySought_21 ?_
    refine lv_astore (lv' := [(4, .ref ((aI i))), (3, .int (nI i)), (0, .ref h), (1, .int (nI mk)), (2, .int (nI mt))]) hx hb d_MB_verifySought_24 hl (by decide) rfl (fun ls hl => ?_)
    refine lv_aload_n hx hb d_MB_verifySought_26 rfl (lv_at hl 2 rfl) ?_
    refine lv_aload hx hb d_MB_verifySought_27 (lv_at hl 0 rfl) ?_
    refine lv_iload_n hx hb d_MB_verifySought_29 rfl (lv_at hl 3 rfl) ?_
    refine lv_iload_n hx hb d_MB_verifySought_30 rfl (lv_at hl 4 rfl) ?_
    refine g_ri (g_runV (As := [.ref ((aI i)), .int (nI mk), .int (nI mt)]) (rest := []) ⟨hx, hb, hml, hown, hts⟩ (c_MB_isSought2 l fB hBu ft5 (by omega) (by omega) (by omega) (by omega)) st_MB_isSought k_365 ⟨rfl, rfl, by decide, by decide⟩ rfl (gI.preV hK hS hP fB rfl _) rfl hl.1 rfl (Nat.le_of_ble_eq_true rfl) d_MB_verifySought_31 ⟨by decide, by decide⟩) (fun r6 hr6 => ?_)
    subst hr6
    refine lv_if_eq (tgt := 43) hx hb d_MB_verifySought_34 (by decide) (fun c7 => ?_) (fun c7 => ?_)
    · skip
      rw [bI_0] at c7
      refine lv_iinc (v := nI (i + 1)) (lv' := [(3, .int (nI (i + 1))), (4, .ref ((aI i))), (0, .ref h), (1, .int (nI mk)), (2, .int (nI mt))]) hx hb d_MB_verifySought_43 hl (k := 1) rfl (nI_1 _) (by decide) rfl (fun ls hl => ?_)
      refine lv_goto (tgt := 2) hx hb d_MB_verifySought_46 (by decide) ?_
      exact ih _ _ _ _ _ (by omega) (lv_sub hl [0, 2, 3, 4] rfl) hP hS (by rw [upT_k _ _ i0 (by omega) (by rw [← ht5]; simp_all [gVer])]; exact hQi) hgo
    · skip
      rw [bI_0] at c7
      refine lv_aload hx hb d_MB_verifySought_37 (lv_at hl 0 rfl) ?_
      refine lv_iconst (v := 1) hx hb d_MB_verifySought_39 (by decide) ?_
      refine g_put (ty := .boolean) (v := .int 1) hx hb hts i_In t_In t_In_ok n_In hown hK.1 hP hS ft5 rfl 9 (by decide) (hts _ k_292) (fun _ h9 => h9) rfl (by decide +kernel) rfl rfl (Nat.le_of_ble_eq_true rfl) d_MB_verifySought_40 (fun H locs hP hS => ?_)
      obtain ⟨A8, eA8⟩ : ∃ z, z = gU B (11, i) ((aI i), .inr (3, [.int (nI (iMk t5)), .int (nI (iMt t5)), .int ((iX t5).1), .int ((iX t5).2.1), .int ((iX t5).2.2), .int (nI (iDp t5)), .int (iFr t5), .int (nI (iRu t5) - 1), .long (iAn t5), .int 1, .int (bI (iLv t5))])) := ⟨_, rfl⟩
      replace hP : gP D classes b A8 H := by rw [eA8]; exact hP
      have f9 : A8 (0, 0) = some (h, .inr (0, [.ref ra, .ref ia, .ref sa, .ref ua, .int (nI (kMk σ) - 1)])) := (by rw [eA8]; exact gU_n (gne (show (0 : Nat) ≠ 11 by decide)) : A8 (0, 0) = B (0, 0)).trans fB
      have f10 : A8 (1, 1) = some (ia, .inr (4, [.int moI, .ref qI, .int (nI (kIs σ).length)])) := (by rw [eA8]; exact gU_n (gne (show (1 : Nat) ≠ 11 by decide)) : A8 (1, 1) = B (1, 1)).trans fLI
      have f11 : A8 (11, i) = some ((aI i), .inr (3, [.int (nI (iMk t5)), .int (nI (iMt t5)), .int ((iX t5).1), .int ((iX t5).2.1), .int ((iX t5).2.2), .int (nI (iDp t5)), .int (iFr t5), .int (nI (iRu t5) - 1), .long (iAn t5), .int 1, .int (bI (iLv t5))])) := by rw [eA8]; exact gU_s
      have gA8 : gF [11] i B A8 := by rw [eA8]; exact gF_U gF.rf (by decide)
      refine lv_iinc (v := nI (i + 1)) (lv' := [(3, .int (nI (i + 1))), (4, .ref ((aI i))), (0, .ref h), (1, .int (nI mk)), (2, .int (nI mt))]) hx hb d_MB_verifySought_43 hl (k := 1) rfl (nI_1 _) (by decide) rfl (fun ls hl => ?_)
      refine lv_goto (tgt := 2) hx hb d_MB_verifySought_46 (by decide) ?_
      exact ih _ _ _ _ _ (by omega) (lv_sub hl [0, 2, 3, 4] rfl) hP hS (by rw [upT_s _ _ i0 (by omega), ← ht5, show gVer (kBu σ) mk mt t5 = iVer t5 by simp_all [gVer]]; exact hQi.it (i := i) (by show i < (upT (gVer (kBu σ) mk mt) i (kIs σ)).length; rw [hlen]; omega) gA8 (show rIn A8 i (aI i) _ from f11)) (hgo.trans (gA8.out rfl))
set_option maxHeartbeats 4000000 in
set_option maxRecDepth 100000 in
theorem c_MB_endInteractions (l : Launch) {D : va_G} {cI cZ cO cL : ClassId} {b e0 : Nat} {A : gW} {h ra ia sa ua : Nat} {aR aI aM : Nat → Nat} {fs : Nat → Int32} {σ : Bk} (hQ : rBq cI cZ cO e0 A h ra ia sa ua aR aI aM fs σ) (hl160 : (kIs σ).length ≤ 160) (hwI : ∀ i, i < (kIs σ).length → wfI ((kIs σ).getD i i0)) {mk : Nat} (b1 : mk < 4) : Met l y_MB_endInteractions (Cond.code y_MB_endInteractions b_MB_endInteractions 5 (some .int) :: TT) ({ frames := 3, cells := 0, slots := 0, locals := 64 }) (va_Pc [.ref h, .int (nI mk)] (gI D [(cI, .int), (cZ, .boolean), (cO, .object "java/lang/Object"), (cL, .long)] b e0 A)) (va_Qi (fun (z : Int32) (A2 : gW) => z = nI (cnt (qEnd (kIs σ) mk) (kIs σ).length) ∧ rBq cI cZ cO e0 A2 h ra ia sa ua aR aI aM fs (kRs σ, (kIs σ).map (gEndI mk), kSt σ, kBu σ, kMk σ) ∧ gO A A2) (fun A2 t => gP D classes b A2 t.heap) (fun q => b ≤ q)) 0 0 (fun q => b ≤ q) := by
  refine Met.ofG (own := R_MB) (by decide +kernel) rfl (Nat.le_of_ble_eq_true rfl) ?_
  intro p e s m below meth c ls hx hb hr hlk hml hown hnm hts hI hl
  have hl : lv_has ls 5 [(0, .ref h), (1, .int (nI mk))] := hl
  have hS : gS b s.heap s.heap [] := va_S.rf
  obtain ⟨hP, hK⟩ := hI
  refine lv_iconst (v := 0) hx hb d_MB_endInteractions_0 (by decide) ?_
  refine lv_istore_n (lv' := [(2, .int 0), (0, .ref h), (1, .int (nI mk))]) hx hb d_MB_endInteractions_1 rfl hl (by decide) rfl (fun ls hl => ?_)
  refine lv_iconst (v := 0) hx hb d_MB_endInteractions_2 (by decide) ?_
  refine lv_istore_n (lv' := [(3, .int 0), (2, .int 0), (0, .ref h), (1, .int (nI mk))]) hx hb d_MB_endInteractions_3 rfl hl (by decide) rfl (fun ls hl => ?_)
  obtain ⟨i, hi0⟩ : ∃ z : Nat, z = 0 := ⟨_, rfl⟩
  obtain ⟨cn, hcn0⟩ : ∃ z : Nat, z = 0 := ⟨_, rfl⟩
  obtain ⟨B, hB0⟩ : ∃ z : gW, z = A := ⟨_, rfl⟩
  obtain ⟨H, hH0⟩ : ∃ z : Heap, z = s.heap := ⟨_, rfl⟩
  obtain ⟨locs, hlo0⟩ : ∃ z : List Loc, z = [] := ⟨_, rfl⟩
  obtain ⟨n, hn⟩ : ∃ z : Nat, i + z = (kIs σ).length := ⟨(kIs σ).length - i, by omega⟩
  replace hl : lv_has ls 5 [(3, .int (nI i)), (2, .int (nI cn)), (0, .ref h), (1, .int (nI mk))] := by rw [hi0, hcn0, nI_0]; exact hl
  replace hP : gP D classes b B H := by rw [hB0, hH0]; exact hP
  replace hS : gS b s.heap H locs := by rw [hH0, hlo0]; exact hS
  have hQi : rBq cI cZ cO e0 B h ra ia sa ua aR aI aM fs (kRs σ, upT (gEndI mk) i (kIs σ), kSt σ, kBu σ, kMk σ) := by rw [hB0, hi0]; exact hQ
  have hgo : gO A B := by rw [hB0]; exact gO.rf
  have hinv : cn = cnt (qEnd (kIs σ) mk) i := by rw [hi0, hcn0]; rfl
  rw [← hH0, ← hlo0]
  clear hi0 hB0 hH0 hlo0 hcn0
  induction n generalizing i cn B H locs ls with
  | zero =>
    obtain ⟨fB, hLR, hLI, fS, hfs, hBu, hRs, hIs⟩ := id hQi
    have hlen : (upT (gEndI mk) i (kIs σ)).length = (kIs σ).length := upT_len _ _ _
    replace hLI : rAL cO e0 B 1 11 3 ia (kIs σ).length aI := by rw [← hlen]; exact hLI
    replace hIs : ∀ j, j < (kIs σ).length → rIn B j (aI j) ((upT (gEndI mk) i (kIs σ)).getD j i0) := fun j hj => hIs j (by show j < (upT (gEndI mk) i (kIs σ)).length; rw [hlen]; exact hj)
    obtain ⟨moI, qI, capI, efI, fLI, -⟩ := id hLI
    refine lv_iload_n hx hb d_MB_endInteractions_4 rfl (lv_at hl 0 rfl) ?_
    refine lv_aload_n hx hb d_MB_endInteractions_5 rfl (lv_at hl 2 rfl) ?_
    refine g_get hx hb hts i_MB hown hK.1 hP fB rfl 1 (by decide) (hts _ k_69) (fun _ h9 => h9) rfl d_MB_endInteractions_6 ?_
    refine g_ri (g_runV (As := []) (rest := [.int (nI i)]) ⟨hx, hb, hml, hown, hts⟩ (c_AL_size l hLI) st_AL_size k_120 ⟨rfl, rfl, by decide, by decide⟩ rfl (gI.preV hK hS hP fLI rfl _) rfl hl.1 rfl (Nat.le_of_ble_eq_true rfl) d_MB_endInteractions_9 ⟨by decide, by decide⟩) (fun r1 hr1 => ?_)
    subst hr1
    refine lv_icmp_ge (tgt := 60) hx hb d_MB_endInteractions_12 (by decide) (fun _ => ?_) (fun h9 => absurd (nI_le (show (kIs σ).length ≤ i by omega) (by omega)) h9)
    refine lv_iload_n hx hb d_MB_endInteractions_60 rfl (lv_at hl 1 rfl) ?_
    refine W.widen (k := 0) (n := 0) (by decide) (by decide) ?_
    exact W.iret hx hb hr (fun t ht _ => ⟨⟨_, B, rfl, ⟨by rw [hinv, show i = (kIs σ).length by omega], (by rw [← upT_all (gEndI mk) (i := i) _ (show (kIs σ).length ≤ i by omega)]; exact hQi), hgo⟩, show gP D classes b B t.heap by rw [ht]; exact hP⟩, hS.F ht⟩) hS.2.2 d_MB_endInteractions_61
  | succ n ih =>
    obtain ⟨fB, hLR, hLI, fS, hfs, hBu, hRs, hIs⟩ := id hQi
    have hlen : (upT (gEndI mk) i (kIs σ)).length = (kIs σ).length := upT_len _ _ _
    replace hLI : rAL cO e0 B 1 11 3 ia (kIs σ).length aI := by rw [← hlen]; exact hLI
    replace hIs : ∀ j, j < (kIs σ).length → rIn B j (aI j) ((upT (gEndI mk) i (kIs σ)).getD j i0) := fun j hj => hIs j (by show j < (upT (gEndI mk) i (kIs σ)).length; rw [hlen]; exact hj)
    obtain ⟨moI, qI, capI, efI, fLI, -⟩ := id hLI
    refine lv_iload_n hx hb d_MB_endInteractions_4 rfl (lv_at hl 0 rfl) ?_
    refine lv_aload_n hx hb d_MB_endInteractions_5 rfl (lv_at hl 2 rfl) ?_
    refine g_get hx hb hts i_MB hown hK.1 hP fB rfl 1 (by decide) (hts _ k_69) (fun _ h9 => h9) rfl d_MB_endInteractions_6 ?_
    refine g_ri (g_runV (As := []) (rest := [.int (nI i)]) ⟨hx, hb, hml, hown, hts⟩ (c_AL_size l hLI) st_AL_size k_120 ⟨rfl, rfl, by decide, by decide⟩ rfl (gI.preV hK hS hP fLI rfl _) rfl hl.1 rfl (Nat.le_of_ble_eq_true rfl) d_MB_endInteractions_9 ⟨by decide, by decide⟩) (fun r3 hr3 => ?_)
    subst hr3
    refine lv_icmp_ge (tgt := 60) hx hb d_MB_endInteractions_12 (by decide) (fun h9 => absurd h9 (nI_ge (show i < (kIs σ).length by omega) (by omega))) (fun _ => ?_)
    refine lv_aload_n hx hb d_MB_endInteractions_15 rfl (lv_at hl 2 rfl) ?_
    refine g_get hx hb hts i_MB hown hK.1 hP fB rfl 1 (by decide) (hts _ k_69) (fun _ h9 => h9) rfl d_MB_endInteractions_16 ?_
    refine lv_iload_n hx hb d_MB_endInteractions_19 rfl (lv_at hl 0 rfl) ?_
    refine g_rr (g_runV (As := [.int (nI i)]) (rest := []) ⟨hx, hb, hml, hown, hts⟩ (c_AL_get l hLI (i := i) (by omega)) st_AL_get k_222 ⟨rfl, rfl, by decide, by decide⟩ rfl (gI.preV hK hS hP fLI rfl _) rfl hl.1 rfl (Nat.le_of_ble_eq_true rfl) d_MB_endInteractions_20 ⟨by decide, by decide⟩) ?_
    obtain ⟨t5, ht5⟩ : ∃ z, z = (kIs σ).getD i i0 := ⟨_, rfl⟩
    have ft5 : rIn B i (aI i) t5 := by rw [ht5, ← upT_get _ _ _ (Nat.le_refl i)]; exact hIs i (by omega)
    obtain ⟨bt51, bt52⟩ : wfI t5 := by rw [ht5]; exact hwI i (by omega)
    refine va_castY (C := R_In) hx hb hown (hts _ k_263) (hK.2.1 _ (List.mem_of_getElem? (i := 6) rfl)) (va_recv (q0 := 0) hK.1 (hP.one ft5) rfl rfl) d_MB_endInteractions_23 ?_
    refine lv_astore (lv' := [(4, .ref ((aI i))), (3, .int (nI i)), (2, .int (nI cn)), (0, .ref h), (1, .int (nI mk))]) hx hb d_MB_endInteractions_26 hl (by decide) rfl (fun ls hl => ?_)
    refine lv_aload hx hb d_MB_endInteractions_28 (lv_at hl 0 rfl) ?_
    refine g_get hx hb hts i_In hown hK.1 hP ft5 rfl 10 (by decide) (hts _ k_294) (fun _ h9 => h9) rfl d_MB_endInteractions_30 ?_
    refine lv_if_eq (tgt := 54) hx hb d_MB_endInteractions_33 (by decide) (fun c6 => ?_) (fun c6 => ?_)
    · skip
      rw [bI_0] at c6
      refine lv_iinc (v := nI (i + 1)) (lv' := [(3, .int (nI (i + 1))), (4, .ref ((aI i))), (2, .int (nI cn)), (0, .ref h), (1, .int (nI mk))]) hx hb d_MB_endInteractions_54 hl (k := 1) rfl (nI_1 _) (by decide) rfl (fun ls hl => ?_)
      refine lv_goto (tgt := 4) hx hb d_MB_endInteractions_57 (by decide) ?_
      exact ih _ _ _ _ _ _ (by omega) (lv_sub hl [0, 2, 3, 4] rfl) hP hS (by rw [upT_k _ _ i0 (by omega) (by rw [← ht5]; simp_all [gEndI])]; exact hQi) hgo (by simp_all [cnt, qEnd])
    · skip
      rw [bI_0] at c6
      refine lv_aload hx hb d_MB_endInteractions_36 (lv_at hl 0 rfl) ?_
      refine g_get hx hb hts i_In hown hK.1 hP ft5 rfl 0 (by decide) (hts _ k_273) (fun _ h9 => h9) rfl d_MB_endInteractions_38 ?_
      refine lv_iload_n hx hb d_MB_endInteractions_41 rfl (lv_at hl 4 rfl) ?_
      refine lv_icmp_ne (tgt := 54) hx hb d_MB_endInteractions_42 (by decide) (fun c7 => ?_) (fun c7 => ?_)
      · skip
        replace c7 : ¬ iMk t5 = mk := fun q => c7 ((nI_eq (a := iMk t5) (b := mk) (by omega) (by omega)).mpr q)
        refine lv_iinc (v := nI (i + 1)) (lv' := [(3, .int (nI (i + 1))), (4, .ref ((aI i))), (2, .int (nI cn)), (0, .ref h), (1, .int (nI mk))]) hx hb d_MB_endInteractions_54 hl (k := 1) rfl (nI_1 _) (by decide) rfl (fun ls hl => ?_)
        refine lv_goto (tgt := 4) hx hb d_MB_endInteractions_57 (by decide) ?_
        exact ih _ _ _ _ _ _ (by omega) (lv_sub hl [0, 2, 3, 4] rfl) hP hS (by rw [upT_k _ _ i0 (by omega) (by rw [← ht5]; simp_all [gEndI])]; exact hQi) hgo (by simp_all [cnt, qEnd])
      · skip
        replace c7 : iMk t5 = mk := (nI_eq (a := iMk t5) (b := mk) (by omega) (by omega)).mp c7
        refine lv_aload hx hb d_MB_endInteractions_45 (lv_at hl 0 rfl) ?_
        refine lv_iconst (v := 0) hx hb d_MB_endInteractions_47 (by decide) ?_
        refine g_put (ty := .boolean) (v := .int 0) hx hb hts i_In t_In t_In_ok n_In hown hK.1 hP hS ft5 rfl 10 (by decide) (hts _ k_294) (fun _ h9 => h9) rfl (by decide +kernel) rfl rfl (Nat.le_of_ble_eq_true rfl) d_MB_endInteractions_48 (fun H locs hP hS => ?_)
        obtain ⟨A8, eA8⟩ : ∃ z, z = gU B (11, i) ((aI i), .inr (3, [.int (nI (iMk t5)), .int (nI (iMt t5)), .int ((iX t5).1), .int ((iX t5).2.1), .int ((iX t5).2.2), .int (nI (iDp t5)), .int (iFr t5), .int (nI (iRu t5) - 1), .long (iAn t5), .int (bI (iVe t5)), .int 0])) := ⟨_, rfl⟩
        replace hP : gP D classes b A8 H := by rw [eA8]; exact hP
        have f9 : A8 (0, 0) = some (h, .inr (0, [.ref ra, .ref ia, .ref sa, .ref ua, .int (nI (kMk σ) - 1)])) := (by rw [eA8]; exact gU_n (gne (show (0 : Nat) ≠ 11 by decide)) : A8 (0, 0) = B (0, 0)).trans fB
        have f10 : A8 (1, 1) = some (ia, .inr (4, [.int moI, .ref qI, .int (nI (kIs σ).length)])) := (by rw [eA8]; exact gU_n (gne (show (1 : Nat) ≠ 11 by decide)) : A8 (1, 1) = B (1, 1)).trans fLI
        have f11 : A8 (11, i) = some ((aI i), .inr (3, [.int (nI (iMk t5)), .int (nI (iMt t5)), .int ((iX t5).1), .int ((iX t5).2.1), .int ((iX t5).2.2), .int (nI (iDp t5)), .int (iFr t5), .int (nI (iRu t5) - 1), .long (iAn t5), .int (bI (iVe t5)), .int 0])) := by rw [eA8]; exact gU_s
        have gA8 : gF [11] i B A8 := by rw [eA8]; exact gF_U gF.rf (by decide)
        refine lv_iinc (v := nI (cn + 1)) (lv' := [(2, .int (nI (cn + 1))), (4, .ref ((aI i))), (3, .int (nI i)), (0, .ref h), (1, .int (nI mk))]) hx hb d_MB_endInteractions_51 hl (k := 2) rfl (nI_1 _) (by decide) rfl (fun ls hl => ?_)
        refine lv_iinc (v := nI (i + 1)) (lv' := [(3, .int (nI (i + 1))), (2, .int (nI (cn + 1))), (4, .ref ((aI i))), (0, .ref h), (1, .int (nI mk))]) hx hb d_MB_endInteractions_54 hl (k := 2) rfl (nI_1 _) (by decide) rfl (fun ls hl => ?_)
        refine lv_goto (tgt := 4) hx hb d_MB_endInteractions_57 (by decide) ?_
        exact ih _ _ _ _ _ _ (by omega) (lv_sub hl [0, 1, 3, 4] rfl) hP hS (by rw [upT_s _ _ i0 (by omega), ← ht5, show gEndI mk t5 = iEnd t5 by simp_all [gEndI]]; exact hQi.it (i := i) (by show i < (upT (gEndI mk) i (kIs σ)).length; rw [hlen]; omega) gA8 (show rIn A8 i (aI i) _ from f11)) (hgo.trans (gA8.out rfl)) (by simp_all [cnt, qEnd])
set_option maxHeartbeats 4000000 in
set_option maxRecDepth 100000 in
theorem c_MB_endRules (l : Launch) {D : va_G} {cI cZ cO cL : ClassId} {b e0 : Nat} {A : gW} {h ra ia sa ua : Nat} {aR aI aM : Nat → Nat} {fs : Nat → Int32} {σ : Bk} (hQ : rBq cI cZ cO e0 A h ra ia sa ua aR aI aM fs σ) (hl24 : (kRs σ).length ≤ 24) (hwR : ∀ i, i < (kRs σ).length → uMk ((kRs σ).getD i u0) < 4) {mk : Nat} (b1 : mk < 4) : Met l y_MB_endRules (Cond.code y_MB_endRules b_MB_endRules 4 none :: TT) ({ frames := 3, cells := 0, slots := 0, locals := 64 }) (va_Pc [.ref h, .int (nI mk)] (gI D [(cI, .int), (cZ, .boolean), (cO, .object "java/lang/Object"), (cL, .long)] b e0 A)) (va_Qv (fun A2 : gW => rBq cI cZ cO e0 A2 h ra ia sa ua aR aI aM fs ((kRs σ).map (gEndR mk), kIs σ, kSt σ, kBu σ, kMk σ) ∧ gO A A2) (fun A2 t => gP D classes b A2 t.heap) (fun q => b ≤ q)) 0 0 (fun q => b ≤ q) := by
  refine Met.ofG (own := R_MB) (by decide +kernel) rfl (Nat.le_of_ble_eq_true rfl) ?_
  intro p e s m below meth c ls hx hb hr hlk hml hown hnm hts hI hl
  have hl : lv_has ls 4 [(0, .ref h), (1, .int (nI mk))] := hl
  have hS : gS b s.heap s.heap [] := va_S.rf
  obtain ⟨hP, hK⟩ := hI
  refine lv_iconst (v := 0) hx hb d_MB_endRules_0 (by decide) ?_
  refine lv_istore_n (lv' := [(2, .int 0), (0, .ref h), (1, .int (nI mk))]) hx hb d_MB_endRules_1 rfl hl (by decide) rfl (fun ls hl => ?_)
  obtain ⟨i, hi0⟩ : ∃ z : Nat, z = 0 := ⟨_, rfl⟩
  obtain ⟨B, hB0⟩ : ∃ z : gW, z = A := ⟨_, rfl⟩
  obtain ⟨H, hH0⟩ : ∃ z : Heap, z = s.heap := ⟨_, rfl⟩
  obtain ⟨locs, hlo0⟩ : ∃ z : List Loc, z = [] := ⟨_, rfl⟩
  obtain ⟨n, hn⟩ : ∃ z : Nat, i + z = (kRs σ).length := ⟨(kRs σ).length - i, by omega⟩
  replace hl : lv_has ls 4 [(2, .int (nI i)), (0, .ref h), (1, .int (nI mk))] := by rw [hi0, nI_0]; exact hl
  replace hP : gP D classes b B H := by rw [hB0, hH0]; exact hP
  replace hS : gS b s.heap H locs := by rw [hH0, hlo0]; exact hS
  have hQi : rBq cI cZ cO e0 B h ra ia sa ua aR aI aM fs (upT (gEndR mk) i (kRs σ), kIs σ, kSt σ, kBu σ, kMk σ) := by rw [hB0, hi0]; exact hQ
  have hgo : gO A B := by rw [hB0]; exact gO.rf
  rw [← hH0, ← hlo0]
  clear hi0 hB0 hH0 hlo0
  induction n generalizing i B H locs ls with
  | zero =>
    obtain ⟨fB, hLR, hLI, fS, hfs, hBu, hRs, hIs⟩ := id hQi
    have hlen : (upT (gEndR mk) i (kRs σ)).length = (kRs σ).length := upT_len _ _ _
    replace hLR : rAL cO e0 B 0 8 2 ra (kRs σ).length aR := by rw [← hlen]; exact hLR
    replace hRs : ∀ j, j < (kRs σ).length → rMa cI B j (aM j) (uMs ((upT (gEndR mk) i (kRs σ)).getD j u0)) ∧ rRu cI B j (aR j) (aM j) ((upT (gEndR mk) i (kRs σ)).getD j u0) := fun j hj => hRs j (by show j < (upT (gEndR mk) i (kRs σ)).length; rw [hlen]; exact hj)
    obtain ⟨moR, qR, capR, efR, fLR, -⟩ := id hLR
    refine lv_iload_n hx hb d_MB_endRules_2 rfl (lv_at hl 0 rfl) ?_
    refine lv_aload_n hx hb d_MB_endRules_3 rfl (lv_at hl 1 rfl) ?_
    refine g_get hx hb hts i_MB hown hK.1 hP fB rfl 0 (by decide) (hts _ k_68) (fun _ h9 => h9) rfl d_MB_endRules_4 ?_
    refine g_ri (g_runV (As := []) (rest := [.int (nI i)]) ⟨hx, hb, hml, hown, hts⟩ (c_AL_size l hLR) st_AL_size k_120 ⟨rfl, rfl, by decide, by decide⟩ rfl (gI.preV hK hS hP fLR rfl _) rfl hl.1 rfl (Nat.le_of_ble_eq_true rfl) d_MB_endRules_7 ⟨by decide, by decide⟩) (fun r1 hr1 => ?_)
    subst hr1
    refine lv_icmp_ge (tgt := 44) hx hb d_MB_endRules_10 (by decide) (fun _ => ?_) (fun h9 => absurd (nI_le (show (kRs σ).length ≤ i by omega) (by omega)) h9)
    refine W.widen (k := 0) (n := 0) (by decide) (by decide) ?_
    exact W.vret hx hb hr (fun t ht _ => ⟨⟨B, rfl, ⟨(by rw [← upT_all (gEndR mk) (i := i) _ (show (kRs σ).length ≤ i by omega)]; exact hQi), hgo⟩, show gP D classes b B t.heap by rw [ht]; exact hP⟩, hS.F ht⟩) hS.2.2 d_MB_endRules_44
  | succ n ih =>
    obtain ⟨fB, hLR, hLI, fS, hfs, hBu, hRs, hIs⟩ := id hQi
    have hlen : (upT (gEndR mk) i (kRs σ)).length = (kRs σ).length := upT_len _ _ _
    replace hLR : rAL cO e0 B 0 8 2 ra (kRs σ).length aR := by rw [← hlen]; exact hLR
    replace hRs : ∀ j, j < (kRs σ).length → rMa cI B j (aM j) (uMs ((upT (gEndR mk) i (kRs σ)).getD j u0)) ∧ rRu cI B j (aR j) (aM j) ((upT (gEndR mk) i (kRs σ)).getD j u0) := fun j hj => hRs j (by show j < (upT (gEndR mk) i (kRs σ)).length; rw [hlen]; exact hj)
    obtain ⟨moR, qR, capR, efR, fLR, -⟩ := id hLR
    refine lv_iload_n hx hb d_MB_endRules_2 rfl (lv_at hl 0 rfl) ?_
    refine lv_aload_n hx hb d_MB_endRules_3 rfl (lv_at hl 1 rfl) ?_
    refine g_get hx hb hts i_MB hown hK.1 hP fB rfl 0 (by decide) (hts _ k_68) (fun _ h9 => h9) rfl d_MB_endRules_4 ?_
    refine g_ri (g_runV (As := []) (rest := [.int (nI i)]) ⟨hx, hb, hml, hown, hts⟩ (c_AL_size l hLR) st_AL_size k_120 ⟨rfl, rfl, by decide, by decide⟩ rfl (gI.preV hK hS hP fLR rfl _) rfl hl.1 rfl (Nat.le_of_ble_eq_true rfl) d_MB_endRules_7 ⟨by decide, by decide⟩) (fun r3 hr3 => ?_)
    subst hr3
    refine lv_icmp_ge (tgt := 44) hx hb d_MB_endRules_10 (by decide) (fun h9 => absurd h9 (nI_ge (show i < (kRs σ).length by omega) (by omega))) (fun _ => ?_)
    refine lv_aload_n hx hb d_MB_endRules_13 rfl (lv_at hl 1 rfl) ?_
    refine g_get hx hb hts i_MB hown hK.1 hP fB rfl 0 (by decide) (hts _ k_68) (fun _ h9 => h9) rfl d_MB_endRules_14 ?_
    refine lv_iload_n hx hb d_MB_endRules_17 rfl (lv_at hl 0 rfl) ?_
    refine g_rr (g_runV (As := [.int (nI i)]) (rest := []) ⟨hx, hb, hml, hown, hts⟩ (c_AL_get l hLR (i := i) (by omega)) st_AL_get k_222 ⟨rfl, rfl, by decide, by decide⟩ rfl (gI.preV hK hS hP fLR rfl _) rfl hl.1 rfl (Nat.le_of_ble_eq_true rfl) d_MB_endRules_18 ⟨by decide, by decide⟩) ?_
    obtain ⟨r5, hr5⟩ : ∃ z, z = (kRs σ).getD i u0 := ⟨_, rfl⟩
    have fr5 : rRu cI B i (aR i) (aM i) r5 := by rw [hr5, ← upT_get _ _ _ (Nat.le_refl i)]; exact (hRs i (by omega)).2
    have br5 : uMk r5 < 4 := by rw [hr5]; exact hwR i (by omega)
    obtain ⟨hk5, hv5, fk5, fv5, fR5, fK5, fV5, hn5, hac5⟩ := id fr5
    refine va_castY (C := R_Ru) hx hb hown (hts _ k_124) (hK.2.1 _ (List.mem_of_getElem? (i := 5) rfl)) (va_recv (q0 := 0) hK.1 (hP.one fR5) rfl rfl) d_MB_endRules_21 ?_
    refine lv_astore_n (lv' := [(3, .ref ((aR i))), (2, .int (nI i)), (0, .ref h), (1, .int (nI mk))]) hx hb d_MB_endRules_24 rfl hl (by decide) rfl (fun ls hl => ?_)
    refine lv_aload_n hx hb d_MB_endRules_25 rfl (lv_at hl 0 rfl) ?_
    refine g_get hx hb hts i_Ru hown hK.1 hP fR5 rfl 0 (by decide) (hts _ k_131) (fun _ h9 => h9) rfl d_MB_endRules_26 ?_
    refine lv_iload_n hx hb d_MB_endRules_29 rfl (lv_at hl 3 rfl) ?_
    refine lv_icmp_ne (tgt := 38) hx hb d_MB_endRules_30 (by decide) (fun c6 => ?_) (fun c6 => ?_)
    · skip
      replace c6 : ¬ uMk r5 = mk := fun q => c6 ((nI_eq (a := uMk r5) (b := mk) (by omega) (by omega)).mpr q)
      refine lv_iinc (v := nI (i + 1)) (lv' := [(2, .int (nI (i + 1))), (3, .ref ((aR i))), (0, .ref h), (1, .int (nI mk))]) hx hb d_MB_endRules_38 hl (k := 1) rfl (nI_1 _) (by decide) rfl (fun ls hl => ?_)
      refine lv_goto (tgt := 2) hx hb d_MB_endRules_41 (by decide) ?_
      exact ih _ _ _ _ _ (by omega) (lv_sub hl [0, 2, 3] rfl) hP hS (by rw [upT_k _ _ u0 (by omega) (by rw [← hr5]; simp_all [gEndR])]; exact hQi) hgo
    · skip
      replace c6 : uMk r5 = mk := (nI_eq (a := uMk r5) (b := mk) (by omega) (by omega)).mp c6
      refine lv_aload_n hx hb d_MB_endRules_33 rfl (lv_at hl 0 rfl) ?_
      refine lv_iconst (v := 0) hx hb d_MB_endRules_34 (by decide) ?_
      refine g_put (ty := .boolean) (v := .int 0) hx hb hts i_Ru t_Ru t_Ru_ok n_Ru hown hK.1 hP hS fR5 rfl 7 (by decide) (hts _ k_143) (fun _ h9 => h9) rfl (by decide +kernel) rfl rfl (Nat.le_of_ble_eq_true rfl) d_MB_endRules_35 (fun H locs hP hS => ?_)
      obtain ⟨A7, eA7⟩ : ∃ z, z = gU B (8, i) ((aR i), .inr (2, [.int (nI (uMk r5)), .int (nI (uMt r5)), .ref ((aM i)), .ref hk5, .ref hv5, .int (nI (uAc r5).length), .int (nI (uUs r5)), .int 0])) := ⟨_, rfl⟩
      replace hP : gP D classes b A7 H := by rw [eA7]; exact hP
      have f8 : A7 (0, 0) = some (h, .inr (0, [.ref ra, .ref ia, .ref sa, .ref ua, .int (nI (kMk σ) - 1)])) := (by rw [eA7]; exact gU_n (gne (show (0 : Nat) ≠ 8 by decide)) : A7 (0, 0) = B (0, 0)).trans fB
      have f9 : A7 (1, 0) = some (ra, .inr (4, [.int moR, .ref qR, .int (nI (kRs σ).length)])) := (by rw [eA7]; exact gU_n (gne (show (1 : Nat) ≠ 8 by decide)) : A7 (1, 0) = B (1, 0)).trans fLR
      have f10 : A7 (9, i) = some (hk5, .inl (cI, 4, .inl fk5)) := (by rw [eA7]; exact gU_n (gne (show (9 : Nat) ≠ 8 by decide)) : A7 (9, i) = B (9, i)).trans fK5
      have f11 : A7 (10, i) = some (hv5, .inl (cI, 4, .inl fv5)) := (by rw [eA7]; exact gU_n (gne (show (10 : Nat) ≠ 8 by decide)) : A7 (10, i) = B (10, i)).trans fV5
      have f12 : A7 (8, i) = some ((aR i), .inr (2, [.int (nI (uMk r5)), .int (nI (uMt r5)), .ref ((aM i)), .ref hk5, .ref hv5, .int (nI (uAc r5).length), .int (nI (uUs r5)), .int 0])) := by rw [eA7]; exact gU_s
      have gA7 : gF [8, 9, 10] i B A7 := by rw [eA7]; exact gF_U gF.rf (by decide)
      refine lv_iinc (v := nI (i + 1)) (lv' := [(2, .int (nI (i + 1))), (3, .ref ((aR i))), (0, .ref h), (1, .int (nI mk))]) hx hb d_MB_endRules_38 hl (k := 1) rfl (nI_1 _) (by decide) rfl (fun ls hl => ?_)
      refine lv_goto (tgt := 2) hx hb d_MB_endRules_41 (by decide) ?_
      exact ih _ _ _ _ _ (by omega) (lv_sub hl [0, 2, 3] rfl) hP hS (by rw [upT_s _ _ u0 (by omega), ← hr5, show gEndR mk r5 = uEnd r5 by simp_all [gEndR]]; exact hQi.ru (i := i) (by show i < (upT (gEndR mk) i (kRs σ)).length; rw [hlen]; omega) gA7 (show rRu cI A7 i (aR i) (aM i) _ from ⟨hk5, hv5, fk5, fv5, f12, f10, f11, hn5, hac5⟩) (by show _ = uMs ((upT (gEndR mk) i (kRs σ)).getD i u0); rw [upT_get _ _ _ (Nat.le_refl i), ← hr5]; rfl)) (hgo.trans (gA7.out rfl))
