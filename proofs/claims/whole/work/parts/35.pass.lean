set_option maxHeartbeats 4000000 in
set_option maxRecDepth 100000 in
theorem c_MB_isRule2 (l : Launch) {D : va_G} {cI cZ cO cL : ClassId} {b e0 : Nat} {A : gW} {h ra ia sa ua n : Nat} {mv : Int32} {aR : Nat → Nat} (fB : A (0, 0) = some (h, .inr (0, [.ref ra, .ref ia, .ref sa, .ref ua, .int mv]))) (hLR : rAL cO e0 A 0 8 2 ra n aR) (x : Int32) : Met l y_MB_isRule (Cond.code y_MB_isRule b_MB_isRule 2 (some .boolean) :: TT) ({ frames := 1, cells := 0, slots := 0, locals := 22 }) (va_Pc [.ref h, .int x] (gI D [(cI, .int), (cZ, .boolean), (cO, .object "java/lang/Object"), (cL, .long)] b e0 A)) (vp_Si (fun z => z = bI (inR x 0 (nI n - 1)))) 0 0 (fun _ => False) := by
  refine Met.ofG (own := R_MB) (by decide +kernel) rfl (Nat.le_of_ble_eq_true rfl) ?_
  intro p e s m below meth c ls hx hb hr hlk hml hown hnm hts hI hl
  have hl : lv_has ls 2 [(0, .ref h), (1, .int x)] := hl
  obtain ⟨hP, hK⟩ := hI
  obtain ⟨moR, qR, capR, efR, fLR, -⟩ := id hLR
  refine lv_iload_n hx hb d_MB_isRule_0 rfl (lv_at hl 1 rfl) ?_
  refine lv_iconst (v := 0) hx hb d_MB_isRule_1 (by decide) ?_
  refine lv_aload_n hx hb d_MB_isRule_2 rfl (lv_at hl 0 rfl) ?_
  refine g_get hx hb hts i_MB hown hK.1 hP fB rfl 0 (by decide) (hts _ k_68) (fun _ h9 => h9) rfl d_MB_isRule_3 ?_
  refine g_ri (g_runV (As := []) (rest := [.int 0, .int x]) ⟨hx, hb, hml, hown, hts⟩ (c_AL_size l hLR) st_AL_size k_120 ⟨rfl, rfl, by decide, by decide⟩ rfl (gI.preV hK va_S.rf hP fLR rfl _) rfl hl.1 rfl (Nat.le_of_ble_eq_true rfl) d_MB_isRule_6 ⟨by decide, by decide⟩) (fun r1 hr1 => ?_)
  subst hr1
  refine lv_iconst (v := 1) hx hb d_MB_isRule_9 (by decide) ?_
  refine lv_isub hx hb d_MB_isRule_10 ?_
  refine g_ri (g_runS (As := [.int x, .int 0, .int ((nI n) - 1)]) (rest := []) ⟨hx, hb, hml, hown, hts⟩ (c_MB_isWithin l x 0 ((nI n) - 1)) st_MB_isWithin k_88 ⟨rfl, rfl, by decide, by decide⟩ (gT_pre _) rfl hl.1 rfl (Nat.le_of_ble_eq_true rfl) d_MB_isRule_11 ⟨by decide, by decide⟩) (fun r2 hr2 => ?_)
  subst hr2
  exact W.zret hx hb hr (bI_nar _) (fun t ht _ => ⟨_, rfl, rfl, ht⟩) (fun _ h => nomatch h) d_MB_isRule_14
set_option maxHeartbeats 4000000 in
set_option maxRecDepth 100000 in
theorem c_MB_ruleNumberFor2 (l : Launch) {D : va_G} {cI cZ cO cL : ClassId} {b e0 : Nat} {A : gW} {h ra ia sa ua : Nat} {aR aI aM : Nat → Nat} {fs : Nat → Int32} {σ : Bk} (hQ : rBq cI cZ cO e0 A h ra ia sa ua aR aI aM fs σ) (w1 : (kRs σ).length ≤ 24) (w3 : ∀ i, i < (kRs σ).length → wfR ((kRs σ).getD i u0)) {j h2 : Nat} {t : It} (hi : rIn A j h2 t) (b3 : iMk t < 4) (b4 : iMt t < 8) : Met l y_MB_ruleNumberFor (Cond.code y_MB_ruleNumberFor b_MB_ruleNumberFor 3 (some .int) :: TT) ({ frames := 4, cells := 0, slots := 0, locals := 87 }) (va_Pc [.ref h, .ref h2] (gI D [(cI, .int), (cZ, .boolean), (cO, .object "java/lang/Object"), (cL, .long)] b e0 A)) (vp_Si (fun z => z = nI (ruFor (kRs σ) (iMk t) (iMt t) (iX t)) - 1)) 0 0 (fun _ => False) := by
  refine Met.ofG (own := R_MB) (by decide +kernel) rfl (Nat.le_of_ble_eq_true rfl) ?_
  intro p e s m below meth c ls hx hb hr hlk hml hown hnm hts hI hl
  have hl : lv_has ls 3 [(0, .ref h), (1, .ref h2)] := hl
  obtain ⟨hP, hK⟩ := hI
  obtain ⟨fB, hLR, hLI, fS, hfs, hBu, hRs, hIs⟩ := id hQ
  obtain ⟨moR, qR, capR, efR, fLR, -⟩ := id hLR
  obtain ⟨moI, qI, capI, efI, fLI, -⟩ := id hLI
  obtain ⟨hk, hv, fk, fv, fM, fK, fV, hn3, hms⟩ := id hBu
  refine lv_aload_n hx hb d_MB_ruleNumberFor_0 rfl (lv_at hl 0 rfl) ?_
  refine g_get hx hb hts i_MB hown hK.1 hP fB rfl 0 (by decide) (hts _ k_68) (fun _ h9 => h9) rfl d_MB_ruleNumberFor_1 ?_
  refine g_ri (g_runV (As := []) (rest := []) ⟨hx, hb, hml, hown, hts⟩ (c_AL_size l hLR) st_AL_size k_120 ⟨rfl, rfl, by decide, by decide⟩ rfl (gI.preV hK va_S.rf hP fLR rfl _) rfl hl.1 rfl (Nat.le_of_ble_eq_true rfl) d_MB_ruleNumberFor_4 ⟨by decide, by decide⟩) (fun r1 hr1 => ?_)
  subst hr1
  refine lv_iconst (v := 1) hx hb d_MB_ruleNumberFor_7 (by decide) ?_
  refine lv_isub hx hb d_MB_ruleNumberFor_8 ?_
  refine lv_istore_n (lv' := [(2, .int ((nI (kRs σ).length) - 1)), (0, .ref h), (1, .ref h2)]) hx hb d_MB_ruleNumberFor_9 rfl hl (by decide) rfl (fun ls hl => ?_)
  obtain ⟨n, hn⟩ : ∃ z : Nat, z = (kRs σ).length := ⟨_, rfl⟩
  replace hl : lv_has ls 3 [(2, .int (nI n - 1)), (0, .ref h), (1, .ref h2)] := by rw [hn]; exact hl
  have hinv : lst (fun i => uAns ((kRs σ).getD i u0) (iMk t) (iMt t) (iX t)) n = ruFor (kRs σ) (iMk t) (iMt t) (iX t) := by rw [hn]; rfl
  have hle : n ≤ (kRs σ).length := by omega
  clear hn
  induction n generalizing ls with
  | zero =>
    refine lv_iload_n hx hb d_MB_ruleNumberFor_10 rfl (lv_at hl 0 rfl) ?_
    refine lv_if_lt (tgt := 40) hx hb d_MB_ruleNumberFor_11 (by decide) (fun _ => ?_) (fun h9 => absurd (by decide : nI 0 - 1 < 0) h9)
    refine lv_iconst (v := (-1)) hx hb d_MB_ruleNumberFor_40 (by decide) ?_
    exact W.iret hx hb hr (fun t ht _ => ⟨_, rfl, (by rw [← hinv]; show (-1 : Int32) = nI 0 - 1; decide), ht⟩) (fun _ h => nomatch h) d_MB_ruleNumberFor_41
  | succ n ih =>
    rw [nI_pred] at hl
    refine lv_iload_n hx hb d_MB_ruleNumberFor_10 rfl (lv_at hl 0 rfl) ?_
    refine lv_if_lt (tgt := 40) hx hb d_MB_ruleNumberFor_11 (by decide) (fun h9 => absurd h9 (nI_pos (show n < 2 ^ 31 by omega))) (fun _ => ?_)
    refine lv_aload_n hx hb d_MB_ruleNumberFor_14 rfl (lv_at hl 1 rfl) ?_
    refine g_get hx hb hts i_MB hown hK.1 hP fB rfl 0 (by decide) (hts _ k_68) (fun _ h9 => h9) rfl d_MB_ruleNumberFor_15 ?_
    refine lv_iload_n hx hb d_MB_ruleNumberFor_18 rfl (lv_at hl 0 rfl) ?_
    refine g_rr (g_runV (As := [.int (nI n)]) (rest := []) ⟨hx, hb, hml, hown, hts⟩ (c_AL_get l hLR (i := n) (by omega)) st_AL_get k_222 ⟨rfl, rfl, by decide, by decide⟩ rfl (gI.preV hK va_S.rf hP fLR rfl _) rfl hl.1 rfl (Nat.le_of_ble_eq_true rfl) d_MB_ruleNumberFor_19 ⟨by decide, by decide⟩) ?_
    obtain ⟨r5, hr5⟩ : ∃ z, z = (kRs σ).getD n u0 := ⟨_, rfl⟩
    have fr5 : rRu cI A n (aR n) (aM n) r5 := by rw [hr5]; exact (hRs n (by omega)).2
    have mr5 : rMa cI A n (aM n) (uMs r5) := by rw [hr5]; exact (hRs n (by omega)).1
    have br5 : wfR r5 := by rw [hr5]; exact w3 n (by omega)
    obtain ⟨br51, br52, br53, br54, br55, br56, br57⟩ := br5
    obtain ⟨hk5, hv5, fk5, fv5, fR5, fK5, fV5, hn5, hac5⟩ := id fr5
    refine va_castY (C := R_Ru) hx hb hown (hts _ k_124) (hK.2.1 _ (List.mem_of_getElem? (i := 5) rfl)) (va_recv (q0 := 0) hK.1 (hP.one fR5) rfl rfl) d_MB_ruleNumberFor_22 ?_
    refine lv_aload_n hx hb d_MB_ruleNumberFor_25 rfl (lv_at hl 2 rfl) ?_
    refine g_ri (g_runV (As := [.ref h2]) (rest := []) ⟨hx, hb, hml, hown, hts⟩ (c_Ru_answersTo l fr5 mr5 hi (by omega) (by omega) (by omega) (by omega)) st_Ru_answersTo k_322 ⟨rfl, rfl, by decide, by decide⟩ rfl (gI.preV hK va_S.rf hP fR5 rfl _) rfl hl.1 rfl (Nat.le_of_ble_eq_true rfl) d_MB_ruleNumberFor_26 ⟨by decide, by decide⟩) (fun r6 hr6 => ?_)
    subst hr6
    refine lv_if_eq (tgt := 34) hx hb d_MB_ruleNumberFor_29 (by decide) (fun c7 => ?_) (fun c7 => ?_)
    · skip
      rw [bI_0] at c7
      refine lv_iinc (v := nI n - 1) (lv' := [(2, .int (nI n - 1)), (0, .ref h), (1, .ref h2)]) hx hb d_MB_ruleNumberFor_34 hl (k := 0) rfl (dec1 _) (by decide) rfl (fun ls hl => ?_)
      refine lv_goto (tgt := 10) hx hb d_MB_ruleNumberFor_37 (by decide) ?_
      exact ih _ (lv_sub hl [0, 1, 2] rfl) (by simp_all [lst]) (by omega)
    · skip
      rw [bI_0] at c7
      refine lv_iload_n hx hb d_MB_ruleNumberFor_32 rfl (lv_at hl 0 rfl) ?_
      exact W.iret hx hb hr (fun t ht _ => ⟨_, rfl, (by rw [← hinv]; simp_all [lst, nI_pred]), ht⟩) (fun _ h => nomatch h) d_MB_ruleNumberFor_33
/-- behind a call with the outcome w: answer z, world A2 -/
def NRq (cI cZ cO : ClassId) (e0 h ra ia sa ua : Nat) (aR aI aM : Nat → Nat) (fs : Nat → Int32) (σ : Bk) (A : gW) (w : List Ru × List It × Int64) (z : Int64) (A2 : gW) : Prop := z = w.2.2 ∧ (∃ aI2 : Nat → Nat, (∀ j, j < (kIs σ).length → aI2 j = aI j) ∧ rBq cI cZ cO e0 A2 h ra ia sa ua aR aI2 aM fs (w.1, kIs σ ++ w.2.1, kSt σ, kBu σ, kMk σ)) ∧ gO A A2
abbrev rmN (f : Nat) : Room := { frames := 20 + 3 * f, cells := 2 * f, slots := 251 * f, locals := 600 + 82 * f }
abbrev rmP (f : Nat) : Room := { frames := 21 + 3 * f, cells := 2 * f, slots := 251 * f, locals := 629 + 82 * f }
abbrev rmR (f : Nat) : Room := { frames := 22 + 3 * f, cells := 2 * f, slots := 251 * f, locals := 655 + 82 * f }
/-- noteAndRespond at the depth from which f levels are left -/
def NRc (l : Launch) (D : va_G) (cI cZ cO cL : ClassId) (b e0 f : Nat) : Prop := ∀ (A : gW) (h ra ia sa ua : Nat) (aR aI aM : Nat → Nat) (fs : Nat → Int32) (σ : Bk) (mk mt dp : Nat) (xa xb xc fr : Int32), rBq cI cZ cO e0 A h ra ia sa ua aR aI aM fs σ → wfC σ (kIs σ).length → mk < 4 → mt < 8 → dp + f = 4 →
  Met l y_MB_noteAndRespond (Cond.code y_MB_noteAndRespond b_MB_noteAndRespond 10 (some .long) :: TT) (rmN f) (va_Pc [.ref h, .int (nI mk), .int (nI mt), .int xa, .int xb, .int xc, .int (nI dp), .int fr] (gI D [(cI, .int), (cZ, .boolean), (cO, .object "java/lang/Object"), (cL, .long)] b e0 A)) (va_Ql (fun (z : Int64) (A2 : gW) => NRq cI cZ cO e0 h ra ia sa ua aR aI aM fs σ A (calS (kSt σ) f (kRs σ) (kIs σ).length mk mt (xa, xb, xc) dp fr) z A2) (fun A2 t => gP D classes b A2 t.heap) (fun q => b ≤ q)) (2 * f) (251 * f) (fun q => b ≤ q)
set_option maxHeartbeats 4000000 in
set_option maxRecDepth 100000 in
theorem c_MB_pass (l : Launch) {D : va_G} {cI cZ cO cL : ClassId} {b e0 : Nat} {f : Nat} (ih : NRc l D cI cZ cO cL b e0 f) {A : gW} {h ra ia sa ua : Nat} {aR aI aM : Nat → Nat} {fs : Nat → Int32} {σ : Bk} (hQ : rBq cI cZ cO e0 A h ra ia sa ua aR aI aM fs σ) (hw : wfC σ (kIs σ).length) {i q tv dp : Nat} (hi : i < (kIs σ).length) (hq : aI i = q) (htv : tv < 32) (hdp : dp + 1 + f = 4) : Met l y_MB_pass (Cond.code y_MB_pass b_MB_pass 7 (some .long) :: TT) (rmP f) (va_Pc [.ref h, .ref q, .int (nI i), .int (nI tv), .int (nI dp)] (gI D [(cI, .int), (cZ, .boolean), (cO, .object "java/lang/Object"), (cL, .long)] b e0 A)) (va_Ql (fun (z : Int64) (A2 : gW) => NRq cI cZ cO e0 h ra ia sa ua aR aI aM fs σ A (calS (kSt σ) f (kRs σ) (kIs σ).length (tv / 8) (tv % 8) (iX ((kIs σ).getD i i0)) (dp + 1) (nI i)) z A2) (fun A2 t => gP D classes b A2 t.heap) (fun q => b ≤ q)) (2 * f) (251 * f) (fun q => b ≤ q) := by
  refine Met.ofG (own := R_MB) (by decide +kernel) rfl (Nat.le_of_ble_eq_true rfl) ?_
  intro p e s m below meth c ls hx hb hr hlk hml hown hnm hts hI hl
  have hl : lv_has ls 7 [(0, .ref h), (1, .ref q), (2, .int (nI i)), (3, .int (nI tv)), (4, .int (nI dp))] := hl
  have hS : gS b s.heap s.heap [] := va_S.rf
  obtain ⟨hP, hK⟩ := hI
  obtain ⟨fB, hLR, hLI, fS, hfs, hBu, hRs, hIs⟩ := id hQ
  obtain ⟨tt, htt⟩ : ∃ z, z = (kIs σ).getD i i0 := ⟨_, rfl⟩
  have fI : rIn A i q tt := by rw [htt, ← hq]; exact hIs i hi
  refine lv_iload_n hx hb d_MB_pass_0 rfl (lv_at hl 3 rfl) ?_
  refine lv_bipush (v := 8) hx hb d_MB_pass_1 (by decide) ?_
  refine lv_idiv hx hb d_MB_pass_3 (by decide) ?_
  rw [div8 (show tv < 2 ^ 31 by omega)]
  refine lv_istore (lv' := [(5, .int (nI (tv / 8))), (0, .ref h), (1, .ref q), (2, .int (nI i)), (3, .int (nI tv)), (4, .int (nI dp))]) hx hb d_MB_pass_4 hl (by decide) rfl (fun ls hl => ?_)
  refine lv_iload_n hx hb d_MB_pass_6 rfl (lv_at hl 4 rfl) ?_
  refine lv_bipush (v := 8) hx hb d_MB_pass_7 (by decide) ?_
  refine lv_irem hx hb d_MB_pass_9 (by decide) ?_
  rw [rem8 (show tv < 2 ^ 31 by omega)]
  refine lv_istore (lv' := [(6, .int (nI (tv % 8))), (5, .int (nI (tv / 8))), (0, .ref h), (1, .ref q), (2, .int (nI i)), (3, .int (nI tv)), (4, .int (nI dp))]) hx hb d_MB_pass_10 hl (by decide) rfl (fun ls hl => ?_)
  refine lv_aload_n hx hb d_MB_pass_12 rfl (lv_at hl 2 rfl) ?_
  refine lv_iload hx hb d_MB_pass_13 (lv_at hl 1 rfl) ?_
  refine lv_iload hx hb d_MB_pass_15 (lv_at hl 0 rfl) ?_
  refine lv_aload_n hx hb d_MB_pass_17 rfl (lv_at hl 3 rfl) ?_
  refine g_get hx hb hts i_In hown hK.1 hP fI rfl 2 (by decide) (hts _ k_278) (fun _ h9 => h9) rfl d_MB_pass_18 ?_
  refine lv_aload_n hx hb d_MB_pass_21 rfl (lv_at hl 3 rfl) ?_
  refine g_get hx hb hts i_In hown hK.1 hP fI rfl 3 (by decide) (hts _ k_280) (fun _ h9 => h9) rfl d_MB_pass_22 ?_
  refine lv_aload_n hx hb d_MB_pass_25 rfl (lv_at hl 3 rfl) ?_
  refine g_get hx hb hts i_In hown hK.1 hP fI rfl 4 (by decide) (hts _ k_282) (fun _ h9 => h9) rfl d_MB_pass_26 ?_
  refine lv_iload hx hb d_MB_pass_29 (lv_at hl 6 rfl) ?_
  refine lv_iconst (v := 1) hx hb d_MB_pass_31 (by decide) ?_
  refine lv_iadd hx hb d_MB_pass_32 ?_
  rw [nI_1]
  refine lv_iload_n hx hb d_MB_pass_33 rfl (lv_at hl 4 rfl) ?_
  have h00 : 0 + 2 * f = 2 * f := Nat.zero_add _
  refine g_cl (B := fun A2 H => gP D classes b A2 H) (g_runV (As := [.int (nI (tv / 8)), .int (nI (tv % 8)), .int ((iX tt).1), .int ((iX tt).2.1), .int ((iX tt).2.2), .int (nI (dp + 1)), .int (nI i)]) (rest := []) ⟨hx, hb, hml, hown, hts⟩ (ih A h ra ia sa ua aR aI aM fs σ (tv / 8) (tv % 8) (dp + 1) (iX tt).1 (iX tt).2.1 (iX tt).2.2 (nI i) hQ hw (by omega) (by omega) (by omega)) st_MB_noteAndRespond k_258 ⟨rfl, rfl, (by show (20 + 3 * f) + 1 ≤ 21 + 3 * f; omega), (by show 8 + (10 + 11) + (600 + 82 * f) ≤ 629 + 82 * f; omega)⟩ rfl (gI.preV hK hS hP fB rfl _) rfl hl.1 rfl (Nat.le_of_ble_eq_true rfl) d_MB_pass_34 ⟨(by show 0 + 2 * f ≤ 2 * f; omega), (by show 0 + 251 * f ≤ 251 * f; omega)⟩) hS (fun r3 A1 H locs hp2 hP hS => ?_)
  replace hP : gP D classes b A1 H := hP
  refine W.widen (k := 2 * f) (n := 251 * f) (by omega) (by omega) ?_
  refine W.widen (k := 2 * f) (n := 251 * f) (by omega) (by omega) ?_
  exact W.lret hx hb hr (fun t ht _ => ⟨⟨_, A1, rfl, (by rw [htt] at hp2; exact hp2), show gP D classes b A1 t.heap by rw [ht]; exact hP⟩, hS.F ht⟩) hS.2.2 d_MB_pass_37
