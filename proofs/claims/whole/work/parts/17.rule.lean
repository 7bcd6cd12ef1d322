set_option maxHeartbeats 4000000 in
set_option maxRecDepth 100000 in
theorem c_Ru_placeInTurn (l : Launch) {D : va_G} {cI cZ cO cL : ClassId} {b e0 : Nat} {A : gW} {i h hm : Nat} {r : Ru} (hr0 : rRu cI A i h hm r) (hu : uUs r ≤ 160) : Met l y_Ru_placeInTurn (Cond.code y_Ru_placeInTurn b_Ru_placeInTurn 1 (some .int) :: TT) ({ frames := 1, cells := 0, slots := 0, locals := 14 }) (va_Pc [.ref h] (gI D [(cI, .int), (cZ, .boolean), (cO, .object "java/lang/Object"), (cL, .long)] b e0 A)) (vp_Si (fun z => z = nI (min (uUs r) ((uAc r).length - 1)))) 0 0 (fun _ => False) := by
  refine Met.ofG (own := R_Ru) (by decide +kernel) rfl (Nat.le_of_ble_eq_true rfl) ?_
  intro p e s m below meth c ls hx hb hr hlk hml hown hnm hts hI hl
  have hl : lv_has ls 1 [(0, .ref h)] := hl
  obtain ⟨hP, hK⟩ := hI
  obtain ⟨hk, hv, fk, fv, fR, fK, fV, hn4, hac⟩ := id hr0
  refine lv_iconst (v := 0) hx hb d_Ru_placeInTurn_0 (by decide) ?_
  refine lv_aload_n hx hb d_Ru_placeInTurn_1 rfl (lv_at hl 0 rfl) ?_
  refine g_get hx hb hts i_Ru hown hK.1 hP fR rfl 6 (by decide) (hts _ k_140) (fun _ h9 => h9) rfl d_Ru_placeInTurn_2 ?_
  refine lv_aload_n hx hb d_Ru_placeInTurn_5 rfl (lv_at hl 0 rfl) ?_
  refine g_get hx hb hts i_Ru hown hK.1 hP fR rfl 5 (by decide) (hts _ k_138) (fun _ h9 => h9) rfl d_Ru_placeInTurn_6 ?_
  refine lv_iconst (v := 1) hx hb d_Ru_placeInTurn_9 (by decide) ?_
  refine lv_isub hx hb d_Ru_placeInTurn_10 ?_
  refine va_mmin hx hb (hml.trans hl.1.symm) hown (hts _ k_349) (hts _ k_207) (hts _ k_9) (hts _ k_208) (by decide) (by decide) (by decide) (by decide) d_Ru_placeInTurn_11 ?_
  refine va_mmax hx hb (hml.trans hl.1.symm) hown (hts _ k_350) (hts _ k_181) (hts _ k_9) (hts _ k_182) (by decide) (by decide) (by decide) (by decide) d_Ru_placeInTurn_14 ?_
  exact W.iret hx hb hr (fun t ht _ => ⟨_, rfl, (plc hu hn4), ht⟩) (fun _ h => nomatch h) d_Ru_placeInTurn_17
set_option maxHeartbeats 4000000 in
set_option maxRecDepth 100000 in
theorem c_Ru_allows (l : Launch) {D : va_G} {cI cZ cO cL : ClassId} {b e0 : Nat} {A : gW} {i h hm : Nat} {r : Ru} (hr0 : rRu cI A i h hm r) (hmt : uMt r < 8) (k v : Int32) : Met l y_Ru_allows (Cond.code y_Ru_allows b_Ru_allows 3 (some .boolean) :: TT) ({ frames := 1, cells := 0, slots := 0, locals := 22 }) (va_Pc [.ref h, .int k, .int v] (gI D [(cI, .int), (cZ, .boolean), (cO, .object "java/lang/Object"), (cL, .long)] b e0 A)) (vp_Si (fun z => z = bI (allw (uMt r) k v))) 0 0 (fun _ => False) := by
  refine Met.ofG (own := R_Ru) (by decide +kernel) rfl (Nat.le_of_ble_eq_true rfl) ?_
  intro p e s m below meth c ls hx hb hr hlk hml hown hnm hts hI hl
  have hl : lv_has ls 3 [(0, .ref h), (1, .int k), (2, .int v)] := hl
  obtain ⟨hP, hK⟩ := hI
  obtain ⟨hk, hv, fk, fv, fR, fK, fV, hn4, hac⟩ := id hr0
  have e4 := rem4 (show uMt r < 2 ^ 31 by omega)
  refine lv_iload_n hx hb d_Ru_allows_0 rfl (lv_at hl 1 rfl) ?_
  by_cases c1 : k = 0
  · refine lv_tableIn (off := 35) (tgt := 36) hx hb d_Ru_allows_1 (by rw [c1]; decide) (by rw [c1]; decide) (by rw [c1]; rfl) (by decide) ?_
    refine lv_iconst (v := 1) hx hb d_Ru_allows_36 (by decide) ?_
    exact W.zret hx hb hr rfl (fun t ht _ => ⟨_, rfl, (by simp [allw, bI_t, bI_f, *]), ht⟩) (fun _ h => nomatch h) d_Ru_allows_37
  by_cases c2 : k = 1
  · refine lv_tableIn (off := 37) (tgt := 38) hx hb d_Ru_allows_1 (by rw [c2]; decide) (by rw [c2]; decide) (by rw [c2]; rfl) (by decide) ?_
    refine lv_iload_n hx hb d_Ru_allows_38 rfl (lv_at hl 2 rfl) ?_
    refine lv_iconst (v := 0) hx hb d_Ru_allows_39 (by decide) ?_
    refine lv_aload_n hx hb d_Ru_allows_40 rfl (lv_at hl 0 rfl) ?_
    refine g_get hx hb hts i_Ru hown hK.1 hP fR rfl 1 (by decide) (hts _ k_132) (fun _ h9 => h9) rfl d_Ru_allows_41 ?_
    refine g_ri (g_runSN (As := [.int (nI (uMt r))]) (rest := [.int 0, .int v]) ⟨hx, hb, hml, hown, hts⟩ (c_MB_argumentsOf l (nI (uMt r))) st_MB_argumentsOf (hK.2.1 _ (List.mem_of_getElem? (i := 2) rfl)) ⟨rfl, rfl, by decide, by decide⟩ (gT_pre _) rfl hl.1 rfl (Nat.le_of_ble_eq_true rfl) d_Ru_allows_44 ⟨by decide, by decide⟩) (fun r3 hr3 => ?_)
    subst hr3
    refine lv_iconst (v := 1) hx hb d_Ru_allows_47 (by decide) ?_
    refine lv_isub hx hb d_Ru_allows_48 ?_
    refine g_ri (g_runSN (As := [.int v, .int 0, .int (((nI (uMt r)) - (nI (uMt r)) / 4 * 4) - 1)]) (rest := []) ⟨hx, hb, hml, hown, hts⟩ (c_MB_isWithin l v 0 (((nI (uMt r)) - (nI (uMt r)) / 4 * 4) - 1)) st_MB_isWithin (hK.2.1 _ (List.mem_of_getElem? (i := 3) rfl)) ⟨rfl, rfl, by decide, by decide⟩ (gT_pre _) rfl hl.1 rfl (Nat.le_of_ble_eq_true rfl) d_Ru_allows_49 ⟨by decide, by decide⟩) (fun r4 hr4 => ?_)
    subst hr4
    exact W.zret hx hb hr (bI_nar _) (fun t ht _ => ⟨_, rfl, (by simp [allw, bI_t, bI_f, *]), ht⟩) (fun _ h => nomatch h) d_Ru_allows_52
  by_cases c5 : k = 2
  · refine lv_tableIn (off := 35) (tgt := 36) hx hb d_Ru_allows_1 (by rw [c5]; decide) (by rw [c5]; decide) (by rw [c5]; rfl) (by decide) ?_
    refine lv_iconst (v := 1) hx hb d_Ru_allows_36 (by decide) ?_
    exact W.zret hx hb hr rfl (fun t ht _ => ⟨_, rfl, (by simp [allw, bI_t, bI_f, *]), ht⟩) (fun _ h => nomatch h) d_Ru_allows_37
  by_cases c6 : k = 3
  · refine lv_tableIn (off := 35) (tgt := 36) hx hb d_Ru_allows_1 (by rw [c6]; decide) (by rw [c6]; decide) (by rw [c6]; rfl) (by decide) ?_
    refine lv_iconst (v := 1) hx hb d_Ru_allows_36 (by decide) ?_
    exact W.zret hx hb hr rfl (fun t ht _ => ⟨_, rfl, (by simp [allw, bI_t, bI_f, *]), ht⟩) (fun _ h => nomatch h) d_Ru_allows_37
  by_cases c7 : k = 4
  · refine lv_tableIn (off := 52) (tgt := 53) hx hb d_Ru_allows_1 (by rw [c7]; decide) (by rw [c7]; decide) (by rw [c7]; rfl) (by decide) ?_
    refine lv_iload_n hx hb d_Ru_allows_53 rfl (lv_at hl 2 rfl) ?_
    refine lv_iconst (v := 0) hx hb d_Ru_allows_54 (by decide) ?_
    refine lv_bipush (v := 31) hx hb d_Ru_allows_55 (by decide) ?_
    refine g_ri (g_runSN (As := [.int v, .int 0, .int 31]) (rest := []) ⟨hx, hb, hml, hown, hts⟩ (c_MB_isWithin l v 0 31) st_MB_isWithin (hK.2.1 _ (List.mem_of_getElem? (i := 3) rfl)) ⟨rfl, rfl, by decide, by decide⟩ (gT_pre _) rfl hl.1 rfl (Nat.le_of_ble_eq_true rfl) d_Ru_allows_57 ⟨by decide, by decide⟩) (fun r8 hr8 => ?_)
    subst hr8
    refine lv_if_eq (tgt := 84) hx hb d_Ru_allows_60 (by decide) (fun c9 => ?_) (fun c9 => ?_)
    · skip
      rw [bI_0] at c9
      refine lv_iconst (v := 0) hx hb d_Ru_allows_84 (by decide) ?_
      exact W.zret hx hb hr rfl (fun t ht _ => ⟨_, rfl, (by simp [allw, bI_t, bI_f, *]), ht⟩) (fun _ h => nomatch h) d_Ru_allows_85
    · skip
      rw [bI_0] at c9
      refine lv_iload_n hx hb d_Ru_allows_63 rfl (lv_at hl 2 rfl) ?_
      refine lv_bipush (v := 8) hx hb d_Ru_allows_64 (by decide) ?_
      refine lv_irem hx hb d_Ru_allows_66 (by decide) ?_
      refine g_ri (g_runSN (As := [.int (v - v / 8 * 8)]) (rest := []) ⟨hx, hb, hml, hown, hts⟩ (c_MB_argumentsOf l (v - v / 8 * 8)) st_MB_argumentsOf (hK.2.1 _ (List.mem_of_getElem? (i := 2) rfl)) ⟨rfl, rfl, by decide, by decide⟩ (gT_pre _) rfl hl.1 rfl (Nat.le_of_ble_eq_true rfl) d_Ru_allows_67 ⟨by decide, by decide⟩) (fun r10 hr10 => ?_)
      subst hr10
      refine lv_aload_n hx hb d_Ru_allows_70 rfl (lv_at hl 0 rfl) ?_
      refine g_get hx hb hts i_Ru hown hK.1 hP fR rfl 1 (by decide) (hts _ k_132) (fun _ h9 => h9) rfl d_Ru_allows_71 ?_
      refine g_ri (g_runSN (As := [.int (nI (uMt r))]) (rest := [.int ((v - v / 8 * 8) - (v - v / 8 * 8) / 4 * 4)]) ⟨hx, hb, hml, hown, hts⟩ (c_MB_argumentsOf l (nI (uMt r))) st_MB_argumentsOf (hK.2.1 _ (List.mem_of_getElem? (i := 2) rfl)) ⟨rfl, rfl, by decide, by decide⟩ (gT_pre _) rfl hl.1 rfl (Nat.le_of_ble_eq_true rfl) d_Ru_allows_74 ⟨by decide, by decide⟩) (fun r11 hr11 => ?_)
      subst hr11
      refine lv_icmp_gt (tgt := 84) hx hb d_Ru_allows_77 (by decide) (fun c12 => ?_) (fun c12 => ?_)
      · skip
        refine lv_iconst (v := 0) hx hb d_Ru_allows_84 (by decide) ?_
        exact W.zret hx hb hr rfl (fun t ht _ => ⟨_, rfl, (by rw [e4, rem84 (by simpa using c9), nI_ltI (by omega) (by omega)] at c12; have e9 : decide (v.toNatClampNeg % 4 ≤ uMt r % 4) = false := (by simp; omega); simp [allw, bI_t, bI_f, e9, *]), ht⟩) (fun _ h => nomatch h) d_Ru_allows_85
      · skip
        refine lv_iconst (v := 1) hx hb d_Ru_allows_80 (by decide) ?_
        refine lv_goto (tgt := 85) hx hb d_Ru_allows_81 (by decide) ?_
        exact W.zret hx hb hr rfl (fun t ht _ => ⟨_, rfl, (by rw [e4, rem84 (by simpa using c9), nI_ltI (by omega) (by omega)] at c12; have e9 : decide (v.toNatClampNeg % 4 ≤ uMt r % 4) = true := (by simp; omega); simp [allw, bI_t, bI_f, e9, *]), ht⟩) (fun _ h => nomatch h) d_Ru_allows_85
  refine lv_tableOut (tgt := 86) hx hb d_Ru_allows_1 (by have q0 := lv_neT c1 (show (0 : Int32).toInt = 0 by decide); have q1 := lv_neT c2 (show (1 : Int32).toInt = 1 by decide); have q2 := lv_neT c5 (show (2 : Int32).toInt = 2 by decide); have q3 := lv_neT c6 (show (3 : Int32).toInt = 3 by decide); have q4 := lv_neT c7 (show (4 : Int32).toInt = 4 by decide); omega) (by decide) ?_
  refine lv_iconst (v := 0) hx hb d_Ru_allows_86 (by decide) ?_
  exact W.zret hx hb hr rfl (fun t ht _ => ⟨_, rfl, (by simp [allw, bI_t, bI_f, *]), ht⟩) (fun _ h => nomatch h) d_Ru_allows_87
set_option maxHeartbeats 4000000 in
set_option maxRecDepth 100000 in
theorem c_Ru_answersTo (l : Launch) {D : va_G} {cI cZ cO cL : ClassId} {b e0 : Nat} {A : gW} {i h hm : Nat} {r : Ru} (hr0 : rRu cI A i h hm r) {i2 : Nat} (hmm : rMa cI A i2 hm (uMs r)) {j h2 : Nat} {t : It} (hi : rIn A j h2 t) (b1 : uMk r < 4) (b2 : uMt r < 8) (b3 : iMk t < 4) (b4 : iMt t < 8) : Met l y_Ru_answersTo (Cond.code y_Ru_answersTo b_Ru_answersTo 2 (some .boolean) :: TT) ({ frames := 3, cells := 0, slots := 0, locals := 66 }) (va_Pc [.ref h, .ref h2] (gI D [(cI, .int), (cZ, .boolean), (cO, .object "java/lang/Object"), (cL, .long)] b e0 A)) (vp_Si (fun z => z = bI (uAns r (iMk t) (iMt t) (iX t)))) 0 0 (fun _ => False) := by
  refine Met.ofG (own := R_Ru) (by decide +kernel) rfl (Nat.le_of_ble_eq_true rfl) ?_
  intro p e s m below meth c ls hx hb hr hlk hml hown hnm hts hI hl
  have hl : lv_has ls 2 [(0, .ref h), (1, .ref h2)] := hl
  obtain ⟨hP, hK⟩ := hI
  obtain ⟨hk, hv, fk, fv, fR, fK, fV, hn4, hac⟩ := id hr0
  obtain ⟨hk2, hv2, fk2, fv2, fM2, fK2, fV2, hn32, hms2⟩ := id hmm
  refine lv_aload_n hx hb d_Ru_answersTo_0 rfl (lv_at hl 0 rfl) ?_
  refine g_get hx hb hts i_Ru hown hK.1 hP fR rfl 7 (by decide) (hts _ k_142) (fun _ h9 => h9) rfl d_Ru_answersTo_1 ?_
  refine lv_if_eq (tgt := 44) hx hb d_Ru_answersTo_4 (by decide) (fun c1 => ?_) (fun c1 => ?_)
  · skip
    rw [bI_0] at c1
    refine lv_iconst (v := 0) hx hb d_Ru_answersTo_44 (by decide) ?_
    exact W.zret hx hb hr rfl (fun t ht _ => ⟨_, rfl, (by simp_all [uAns, bI]), ht⟩) (fun _ h => nomatch h) d_Ru_answersTo_45
  · skip
    rw [bI_0] at c1
    refine lv_aload_n hx hb d_Ru_answersTo_7 rfl (lv_at hl 0 rfl) ?_
    refine g_get hx hb hts i_Ru hown hK.1 hP fR rfl 0 (by decide) (hts _ k_130) (fun _ h9 => h9) rfl d_Ru_answersTo_8 ?_
    refine lv_aload_n hx hb d_Ru_answersTo_11 rfl (lv_at hl 1 rfl) ?_
    refine g_get hx hb hts i_In hown hK.1 hP hi rfl 0 (by decide) (hts _ k_272) (fun _ h9 => h9) rfl d_Ru_answersTo_12 ?_
    refine lv_icmp_ne (tgt := 44) hx hb d_Ru_answersTo_15 (by decide) (fun c2 => ?_) (fun c2 => ?_)
    · skip
      rw [nI_eq (by omega) (by omega)] at c2
      refine lv_iconst (v := 0) hx hb d_Ru_answersTo_44 (by decide) ?_
      exact W.zret hx hb hr rfl (fun t ht _ => ⟨_, rfl, (by simp_all [uAns, bI]), ht⟩) (fun _ h => nomatch h) d_Ru_answersTo_45
    · skip
      rw [nI_eq (by omega) (by omega)] at c2
      refine lv_aload_n hx hb d_Ru_answersTo_18 rfl (lv_at hl 0 rfl) ?_
      refine g_get hx hb hts i_Ru hown hK.1 hP fR rfl 1 (by decide) (hts _ k_132) (fun _ h9 => h9) rfl d_Ru_answersTo_19 ?_
      refine lv_aload_n hx hb d_Ru_answersTo_22 rfl (lv_at hl 1 rfl) ?_
      refine g_get hx hb hts i_In hown hK.1 hP hi rfl 1 (by decide) (hts _ k_275) (fun _ h9 => h9) rfl d_Ru_answersTo_23 ?_
      refine lv_icmp_ne (tgt := 44) hx hb d_Ru_answersTo_26 (by decide) (fun c3 => ?_) (fun c3 => ?_)
      · skip
        rw [nI_eq (by omega) (by omega)] at c3
        refine lv_iconst (v := 0) hx hb d_Ru_answersTo_44 (by decide) ?_
        exact W.zret hx hb hr rfl (fun t ht _ => ⟨_, rfl, (by simp_all [uAns, bI]), ht⟩) (fun _ h => nomatch h) d_Ru_answersTo_45
      · skip
        rw [nI_eq (by omega) (by omega)] at c3
        refine lv_aload_n hx hb d_Ru_answersTo_29 rfl (lv_at hl 0 rfl) ?_
        refine g_get hx hb hts i_Ru hown hK.1 hP fR rfl 2 (by decide) (hts _ k_133) (fun _ h9 => h9) rfl d_Ru_answersTo_30 ?_
        refine lv_aload_n hx hb d_Ru_answersTo_33 rfl (lv_at hl 1 rfl) ?_
        refine g_ri (g_runV (As := [.ref h2]) (rest := []) ⟨hx, hb, hml, hown, hts⟩ (c_Ma_fit l hmm hi) st_Ma_fit k_326 ⟨rfl, rfl, by decide, by decide⟩ rfl (gI.preV hK va_S.rf hP fM2 rfl _) rfl hl.1 rfl (Nat.le_of_ble_eq_true rfl) d_Ru_answersTo_34 ⟨by decide, by decide⟩) (fun r4 hr4 => ?_)
        subst hr4
        refine lv_if_eq (tgt := 44) hx hb d_Ru_answersTo_37 (by decide) (fun c5 => ?_) (fun c5 => ?_)
        · skip
          rw [bI_0] at c5
          refine lv_iconst (v := 0) hx hb d_Ru_answersTo_44 (by decide) ?_
          exact W.zret hx hb hr rfl (fun t ht _ => ⟨_, rfl, (by simp_all [uAns, bI]), ht⟩) (fun _ h => nomatch h) d_Ru_answersTo_45
        · skip
          rw [bI_0] at c5
          refine lv_iconst (v := 1) hx hb d_Ru_answersTo_40 (by decide) ?_
          refine lv_goto (tgt := 45) hx hb d_Ru_answersTo_41 (by decide) ?_
          exact W.zret hx hb hr rfl (fun t ht _ => ⟨_, rfl, (by simp_all [uAns, bI]), ht⟩) (fun _ h => nomatch h) d_Ru_answersTo_45
