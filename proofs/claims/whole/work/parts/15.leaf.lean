set_option maxHeartbeats 4000000 in
set_option maxRecDepth 100000 in
theorem c_In_argument (l : Launch) {D : va_G} {cI cZ cO cL : ClassId} {b e0 : Nat} {A : gW} {i h : Nat} {t : It} (hi : rIn A i h t) (pz : Int32) : Met l y_In_argument (Cond.code y_In_argument b_In_argument 2 (some .int) :: TT) ({ frames := 0, cells := 0, slots := 0, locals := 0 }) (va_Pc [.ref h, .int pz] (gI D [(cI, .int), (cZ, .boolean), (cO, .object "java/lang/Object"), (cL, .long)] b e0 A)) (vp_Si (fun r => r = argP (iX t) pz)) 0 0 (fun _ => False) := by
  refine Met.ofG (own := R_In) (by decide +kernel) rfl (Nat.le_of_ble_eq_true rfl) ?_
  intro p e s m below meth c ls hx hb hr hlk hml hown hnm hts hI hl
  have hl : lv_has ls 2 [(0, .ref h), (1, .int pz)] := hl
  obtain ⟨hP, hK⟩ := hI
  have fI := hi
  unfold rIn at fI
  refine lv_iload_n hx hb d_In_argument_0 rfl (lv_at hl 1 rfl) ?_
  by_cases c1 : pz = 0
  · refine lv_lookup (off := 27) (tgt := 28) hx hb d_In_argument_1 (by decide) (by rw [c1]; decide) (by decide) ?_
    refine lv_aload_n hx hb d_In_argument_28 rfl (lv_at hl 0 rfl) ?_
    refine g_get hx hb hts i_In hown hK.1 hP fI rfl 2 (by decide) (hts _ k_277) (fun _ h9 => h9) rfl d_In_argument_29 ?_
    exact W.iret hx hb hr (fun t ht _ => ⟨_, rfl, (by simp [argP, *]), ht⟩) (fun _ h => nomatch h) d_In_argument_32
  by_cases c2 : pz = 1
  · refine lv_lookup (off := 32) (tgt := 33) hx hb d_In_argument_1 (by decide) (by rw [c2]; decide) (by decide) ?_
    refine lv_aload_n hx hb d_In_argument_33 rfl (lv_at hl 0 rfl) ?_
    refine g_get hx hb hts i_In hown hK.1 hP fI rfl 3 (by decide) (hts _ k_279) (fun _ h9 => h9) rfl d_In_argument_34 ?_
    exact W.iret hx hb hr (fun t ht _ => ⟨_, rfl, (by simp [argP, *]), ht⟩) (fun _ h => nomatch h) d_In_argument_37
  refine lv_lookup (off := 37) (tgt := 38) hx hb d_In_argument_1 (by decide) (by show Op.lookupswitch.offset [(0, 27), (1, 32)] 37 _ = _; rw [lv_osw c1 (show (0 : Int32).toInt = 0 by decide)]; rw [lv_osw c2 (show (1 : Int32).toInt = 1 by decide)]; rfl) (by decide) ?_
  refine lv_aload_n hx hb d_In_argument_38 rfl (lv_at hl 0 rfl) ?_
  refine g_get hx hb hts i_In hown hK.1 hP fI rfl 4 (by decide) (hts _ k_281) (fun _ h9 => h9) rfl d_In_argument_39 ?_
  exact W.iret hx hb hr (fun t ht _ => ⟨_, rfl, (by simp [argP, *]), ht⟩) (fun _ h => nomatch h) d_In_argument_42
set_option maxHeartbeats 4000000 in
set_option maxRecDepth 100000 in
theorem c_Mt_floorMod (l : Launch)  (x : Int32) : Met l y_Mt_floorMod (Cond.code y_Mt_floorMod b_Mt_floorMod 3 (some .int) :: TT) ({ frames := 0, cells := 0, slots := 0, locals := 0 }) (va_Pc [.int x, .int 4] (fun _ => True)) (vp_Si (fun r => r = flm4 x)) 0 0 (fun _ => False) := by
  refine Met.ofGF (own := R_Mt) (by decide +kernel) rfl (Nat.le_of_ble_eq_true rfl) ?_
  intro p e s m below meth c ls hx hb hr hlk hml hown hnm hts hI hl
  have hl : lv_has ls 3 [(0, .int x), (1, .int 4)] := hl
  refine lv_iload_n hx hb d_Mt_floorMod_0 rfl (lv_at hl 0 rfl) ?_
  refine lv_iload_n hx hb d_Mt_floorMod_1 rfl (lv_at hl 1 rfl) ?_
  refine lv_irem hx hb d_Mt_floorMod_2 (by decide) ?_
  refine lv_istore_n (lv' := [(2, .int (x - x / 4 * 4)), (0, .int x), (1, .int 4)]) hx hb d_Mt_floorMod_3 rfl hl (by decide) rfl (fun ls hl => ?_)
  refine lv_iload_n hx hb d_Mt_floorMod_4 rfl (lv_at hl 1 rfl) ?_
  refine lv_iload_n hx hb d_Mt_floorMod_5 rfl (lv_at hl 2 rfl) ?_
  refine lv_ixor hx hb d_Mt_floorMod_6 ?_
  refine lv_if_ge (tgt := 18) hx hb d_Mt_floorMod_7 (by decide) (fun c1 => ?_) (fun c1 => ?_)
  · skip
    refine lv_iload_n hx hb d_Mt_floorMod_18 rfl (lv_at hl 0 rfl) ?_
    exact W.iret hx hb hr (fun t ht _ => ⟨_, rfl, (by simp [flm4, *]), ht⟩) (fun _ h => nomatch h) d_Mt_floorMod_19
  · skip
    refine lv_iload_n hx hb d_Mt_floorMod_10 rfl (lv_at hl 0 rfl) ?_
    refine lv_if_eq (tgt := 18) hx hb d_Mt_floorMod_11 (by decide) (fun c2 => ?_) (fun c2 => ?_)
    · skip
      refine lv_iload_n hx hb d_Mt_floorMod_18 rfl (lv_at hl 0 rfl) ?_
      exact W.iret hx hb hr (fun t ht _ => ⟨_, rfl, (by simp [flm4, *]), ht⟩) (fun _ h => nomatch h) d_Mt_floorMod_19
    · skip
      refine lv_iload_n hx hb d_Mt_floorMod_14 rfl (lv_at hl 0 rfl) ?_
      refine lv_iload_n hx hb d_Mt_floorMod_15 rfl (lv_at hl 2 rfl) ?_
      refine lv_iadd hx hb d_Mt_floorMod_16 ?_
      exact W.iret hx hb hr (fun t ht _ => ⟨_, rfl, (by simp [flm4, *]), ht⟩) (fun _ h => nomatch h) d_Mt_floorMod_17
set_option maxHeartbeats 4000000 in
set_option maxRecDepth 100000 in
theorem c_Ma_fitsOne (l : Launch)  (k v x : Int32) : Met l y_Ma_fitsOne (Cond.code y_Ma_fitsOne b_Ma_fitsOne 3 (some .boolean) :: TT) ({ frames := 1, cells := 0, slots := 0, locals := 22 }) (va_Pc [.int k, .int v, .int x] (fun _ => True)) (vp_Si (fun r => r = bI (fit1 k v x))) 0 0 (fun _ => False) := by
  refine Met.ofG (own := R_Ma) (by decide +kernel) rfl (Nat.le_of_ble_eq_true rfl) ?_
  intro p e s m below meth c ls hx hb hr hlk hml hown hnm hts hI hl
  have hl : lv_has ls 3 [(0, .int k), (1, .int v), (2, .int x)] := hl
  refine lv_iload_n hx hb d_Ma_fitsOne_0 rfl (lv_at hl 0 rfl) ?_
  by_cases c1 : k = 1
  · refine lv_tableIn (off := 35) (tgt := 36) hx hb d_Ma_fitsOne_1 (by rw [c1]; decide) (by rw [c1]; decide) (by rw [c1]; rfl) (by decide) ?_
    refine lv_iload_n hx hb d_Ma_fitsOne_36 rfl (lv_at hl 2 rfl) ?_
    refine lv_iload_n hx hb d_Ma_fitsOne_37 rfl (lv_at hl 1 rfl) ?_
    refine lv_icmp_ne (tgt := 45) hx hb d_Ma_fitsOne_38 (by decide) (fun c2 => ?_) (fun c2 => ?_)
    · skip
      refine lv_iconst (v := 0) hx hb d_Ma_fitsOne_45 (by decide) ?_
      exact W.zret hx hb hr rfl (fun t ht _ => ⟨_, rfl, (by simp_all [fit1, bI, flm4_and]), ht⟩) (fun _ h => nomatch h) d_Ma_fitsOne_46
    · skip
      refine lv_iconst (v := 1) hx hb d_Ma_fitsOne_41 (by decide) ?_
      refine lv_goto (tgt := 46) hx hb d_Ma_fitsOne_42 (by decide) ?_
      exact W.zret hx hb hr rfl (fun t ht _ => ⟨_, rfl, (by simp_all [fit1, bI, flm4_and]), ht⟩) (fun _ h => nomatch h) d_Ma_fitsOne_46
  by_cases c3 : k = 2
  · refine lv_tableIn (off := 46) (tgt := 47) hx hb d_Ma_fitsOne_1 (by rw [c3]; decide) (by rw [c3]; decide) (by rw [c3]; rfl) (by decide) ?_
    refine lv_iload_n hx hb d_Ma_fitsOne_47 rfl (lv_at hl 2 rfl) ?_
    refine lv_iload_n hx hb d_Ma_fitsOne_48 rfl (lv_at hl 1 rfl) ?_
    refine lv_icmp_eq (tgt := 56) hx hb d_Ma_fitsOne_49 (by decide) (fun c4 => ?_) (fun c4 => ?_)
    · skip
      refine lv_iconst (v := 0) hx hb d_Ma_fitsOne_56 (by decide) ?_
      exact W.zret hx hb hr rfl (fun t ht _ => ⟨_, rfl, (by simp_all [fit1, bI, flm4_and]), ht⟩) (fun _ h => nomatch h) d_Ma_fitsOne_57
    · skip
      refine lv_iconst (v := 1) hx hb d_Ma_fitsOne_52 (by decide) ?_
      refine lv_goto (tgt := 57) hx hb d_Ma_fitsOne_53 (by decide) ?_
      exact W.zret hx hb hr rfl (fun t ht _ => ⟨_, rfl, (by simp_all [fit1, bI, flm4_and]), ht⟩) (fun _ h => nomatch h) d_Ma_fitsOne_57
  by_cases c5 : k = 3
  · refine lv_tableIn (off := 57) (tgt := 58) hx hb d_Ma_fitsOne_1 (by rw [c5]; decide) (by rw [c5]; decide) (by rw [c5]; rfl) (by decide) ?_
    refine lv_iload_n hx hb d_Ma_fitsOne_58 rfl (lv_at hl 2 rfl) ?_
    refine lv_iload_n hx hb d_Ma_fitsOne_59 rfl (lv_at hl 1 rfl) ?_
    refine lv_icmp_ge (tgt := 67) hx hb d_Ma_fitsOne_60 (by decide) (fun c6 => ?_) (fun c6 => ?_)
    · skip
      refine lv_iconst (v := 0) hx hb d_Ma_fitsOne_67 (by decide) ?_
      exact W.zret hx hb hr rfl (fun t ht _ => ⟨_, rfl, (by simp_all [fit1, bI, flm4_and]), ht⟩) (fun _ h => nomatch h) d_Ma_fitsOne_68
    · skip
      refine lv_iconst (v := 1) hx hb d_Ma_fitsOne_63 (by decide) ?_
      refine lv_goto (tgt := 68) hx hb d_Ma_fitsOne_64 (by decide) ?_
      exact W.zret hx hb hr rfl (fun t ht _ => ⟨_, rfl, (by simp_all [fit1, bI, flm4_and]), ht⟩) (fun _ h => nomatch h) d_Ma_fitsOne_68
  by_cases c7 : k = 4
  · refine lv_tableIn (off := 68) (tgt := 69) hx hb d_Ma_fitsOne_1 (by rw [c7]; decide) (by rw [c7]; decide) (by rw [c7]; rfl) (by decide) ?_
    refine lv_iload_n hx hb d_Ma_fitsOne_69 rfl (lv_at hl 2 rfl) ?_
    refine lv_iload_n hx hb d_Ma_fitsOne_70 rfl (lv_at hl 1 rfl) ?_
    refine lv_icmp_le (tgt := 78) hx hb d_Ma_fitsOne_71 (by decide) (fun c8 => ?_) (fun c8 => ?_)
    · skip
      refine lv_iconst (v := 0) hx hb d_Ma_fitsOne_78 (by decide) ?_
      exact W.zret hx hb hr rfl (fun t ht _ => ⟨_, rfl, (by simp_all [fit1, bI, flm4_and]), ht⟩) (fun _ h => nomatch h) d_Ma_fitsOne_79
    · skip
      refine lv_iconst (v := 1) hx hb d_Ma_fitsOne_74 (by decide) ?_
      refine lv_goto (tgt := 79) hx hb d_Ma_fitsOne_75 (by decide) ?_
      exact W.zret hx hb hr rfl (fun t ht _ => ⟨_, rfl, (by simp_all [fit1, bI, flm4_and]), ht⟩) (fun _ h => nomatch h) d_Ma_fitsOne_79
  by_cases c9 : k = 5
  · refine lv_tableIn (off := 79) (tgt := 80) hx hb d_Ma_fitsOne_1 (by rw [c9]; decide) (by rw [c9]; decide) (by rw [c9]; rfl) (by decide) ?_
    refine lv_iload_n hx hb d_Ma_fitsOne_80 rfl (lv_at hl 2 rfl) ?_
    refine lv_iconst (v := 4) hx hb d_Ma_fitsOne_81 (by decide) ?_
    refine g_ri (g_runS (As := [.int x, .int 4]) (rest := []) ⟨hx, hb, hml, hown, hts⟩ (c_Mt_floorMod l x) st_Mt_floorMod k_337 ⟨rfl, rfl, by decide, by decide⟩ (gT_pre _) rfl hl.1 rfl (Nat.le_of_ble_eq_true rfl) d_Ma_fitsOne_82 ⟨by decide, by decide⟩) (fun r10 hr10 => ?_)
    subst hr10
    refine lv_iload_n hx hb d_Ma_fitsOne_85 rfl (lv_at hl 1 rfl) ?_
    refine lv_iconst (v := 4) hx hb d_Ma_fitsOne_86 (by decide) ?_
    refine g_ri (g_runS (As := [.int v, .int 4]) (rest := [.int (flm4 x)]) ⟨hx, hb, hml, hown, hts⟩ (c_Mt_floorMod l v) st_Mt_floorMod k_337 ⟨rfl, rfl, by decide, by decide⟩ (gT_pre _) rfl hl.1 rfl (Nat.le_of_ble_eq_true rfl) d_Ma_fitsOne_87 ⟨by decide, by decide⟩) (fun r11 hr11 => ?_)
    subst hr11
    refine lv_icmp_ne (tgt := 97) hx hb d_Ma_fitsOne_90 (by decide) (fun c12 => ?_) (fun c12 => ?_)
    · skip
      refine lv_iconst (v := 0) hx hb d_Ma_fitsOne_97 (by decide) ?_
      exact W.zret hx hb hr rfl (fun t ht _ => ⟨_, rfl, (by simp_all [fit1, bI, flm4_and]), ht⟩) (fun _ h => nomatch h) d_Ma_fitsOne_98
    · skip
      refine lv_iconst (v := 1) hx hb d_Ma_fitsOne_93 (by decide) ?_
      refine lv_goto (tgt := 98) hx hb d_Ma_fitsOne_94 (by decide) ?_
      exact W.zret hx hb hr rfl (fun t ht _ => ⟨_, rfl, (by simp_all [fit1, bI, flm4_and]), ht⟩) (fun _ h => nomatch h) d_Ma_fitsOne_98
  refine lv_tableOut (tgt := 99) hx hb d_Ma_fitsOne_1 (by have q0 := lv_neT c1 (show (1 : Int32).toInt = 1 by decide); have q1 := lv_neT c3 (show (2 : Int32).toInt = 2 by decide); have q2 := lv_neT c5 (show (3 : Int32).toInt = 3 by decide); have q3 := lv_neT c7 (show (4 : Int32).toInt = 4 by decide); have q4 := lv_neT c9 (show (5 : Int32).toInt = 5 by decide); omega) (by decide) ?_
  refine lv_iconst (v := 1) hx hb d_Ma_fitsOne_99 (by decide) ?_
  exact W.zret hx hb hr rfl (fun t ht _ => ⟨_, rfl, (by simp_all [fit1, bI, flm4_and]), ht⟩) (fun _ h => nomatch h) d_Ma_fitsOne_100
set_option maxHeartbeats 4000000 in
set_option maxRecDepth 100000 in
theorem c_Ma_suits (l : Launch) {D : va_G} {cI cZ cO cL : ClassId} {b e0 : Nat} {A : gW} {i h : Nat} {ms : List Pr} (hm : rMa cI A i h ms) {k : Nat} (hk8 : k < 8) : Met l y_Ma_suits (Cond.code y_Ma_suits b_Ma_suits 2 (some .boolean) :: TT) ({ frames := 1, cells := 0, slots := 0, locals := 20 }) (va_Pc [.ref h, .int (nI k)] (gI D [(cI, .int), (cZ, .boolean), (cO, .object "java/lang/Object"), (cL, .long)] b e0 A)) (vp_Si (fun r => r = bI (decide (ms.length = k % 4)))) 0 0 (fun _ => False) := by
  refine Met.ofG (own := R_Ma) (by decide +kernel) rfl (Nat.le_of_ble_eq_true rfl) ?_
  intro p e s m below meth c ls hx hb hr hlk hml hown hnm hts hI hl
  have hl : lv_has ls 2 [(0, .ref h), (1, .int (nI k))] := hl
  obtain ⟨hP, hK⟩ := hI
  obtain ⟨hk, hv, fk, fv, fM, fK, fV, hn3, hms⟩ := id hm
  refine lv_aload_n hx hb d_Ma_suits_0 rfl (lv_at hl 0 rfl) ?_
  refine g_get hx hb hts i_Ma hown hK.1 hP fM rfl 2 (by decide) (hts _ k_57) (fun _ h9 => h9) rfl d_Ma_suits_1 ?_
  refine lv_iload_n hx hb d_Ma_suits_4 rfl (lv_at hl 1 rfl) ?_
  refine g_ri (g_runSN (As := [.int (nI k)]) (rest := [.int (nI ms.length)]) ⟨hx, hb, hml, hown, hts⟩ (c_MB_argumentsOf l (nI k)) st_MB_argumentsOf (hK.2.1 _ (List.mem_of_getElem? (i := 1) rfl)) ⟨rfl, rfl, by decide, by decide⟩ (gT_pre _) rfl hl.1 rfl (Nat.le_of_ble_eq_true rfl) d_Ma_suits_5 ⟨by decide, by decide⟩) (fun r1 hr1 => ?_)
  subst hr1
  refine lv_icmp_ne (tgt := 15) hx hb d_Ma_suits_8 (by decide) (fun c2 => ?_) (fun c2 => ?_)
  · skip
    refine lv_iconst (v := 0) hx hb d_Ma_suits_15 (by decide) ?_
    exact W.zret hx hb hr rfl (fun t ht _ => ⟨_, rfl, (by rw [rem4 (by omega)] at *; simp_all [bI, nI_eq (show ms.length < 2 ^ 31 by omega) (show k % 4 < 2 ^ 31 by omega)]), ht⟩) (fun _ h => nomatch h) d_Ma_suits_16
  · skip
    refine lv_iconst (v := 1) hx hb d_Ma_suits_11 (by decide) ?_
    refine lv_goto (tgt := 16) hx hb d_Ma_suits_12 (by decide) ?_
    exact W.zret hx hb hr rfl (fun t ht _ => ⟨_, rfl, (by rw [rem4 (by omega)] at *; simp_all [bI, nI_eq (show ms.length < 2 ^ 31 by omega) (show k % 4 < 2 ^ 31 by omega)]), ht⟩) (fun _ h => nomatch h) d_Ma_suits_16
set_option maxHeartbeats 4000000 in
set_option maxRecDepth 100000 in
theorem c_Ma_fit (l : Launch) {D : va_G} {cI cZ cO cL : ClassId} {b e0 : Nat} {A : gW} {i0 h : Nat} {ms : List Pr} (hm : rMa cI A i0 h ms) {j h2 : Nat} {t : It} (hi : rIn A j h2 t) : Met l y_Ma_fit (Cond.code y_Ma_fit b_Ma_fit 3 (some .boolean) :: TT) ({ frames := 2, cells := 0, slots := 0, locals := 44 }) (va_Pc [.ref h, .ref h2] (gI D [(cI, .int), (cZ, .boolean), (cO, .object "java/lang/Object"), (cL, .long)] b e0 A)) (vp_Si (fun r => r = bI (fitA ms (iX t)))) 0 0 (fun _ => False) := by
  refine Met.ofG (own := R_Ma) (by decide +kernel) rfl (Nat.le_of_ble_eq_true rfl) ?_
  intro p e s m below meth c ls hx hb hr hlk hml hown hnm hts hI hl
  have hl : lv_has ls 3 [(0, .ref h), (1, .ref h2)] := hl
  obtain ⟨hP, hK⟩ := hI
  obtain ⟨hk, hv, fk, fv, fM, fK, fV, hn3, hms⟩ := id hm
  refine lv_iconst (v := 0) hx hb d_Ma_fit_0 (by decide) ?_
  refine lv_istore_n (lv' := [(2, .int 0), (0, .ref h), (1, .ref h2)]) hx hb d_Ma_fit_1 rfl hl (by decide) rfl (fun ls hl => ?_)
  obtain ⟨i, hi0⟩ : ∃ z : Nat, z = 0 := ⟨_, rfl⟩
  obtain ⟨n, hn⟩ : ∃ z : Nat, i + z = ms.length := ⟨ms.length - i, by omega⟩
  replace hl : lv_has ls 3 [(2, .int (nI i)), (0, .ref h), (1, .ref h2)] := by rw [hi0, nI_0]; exact hl
  have hinv : fitN ms (iX t) n i = fitA ms (iX t) := by subst hi0; rw [Nat.zero_add] at hn; rw [hn]; rfl
  clear hi0
  induction n generalizing i ls with
  | zero =>
    refine lv_iload_n hx hb d_Ma_fit_2 rfl (lv_at hl 0 rfl) ?_
    refine lv_aload_n hx hb d_Ma_fit_3 rfl (lv_at hl 1 rfl) ?_
    refine g_get hx hb hts i_Ma hown hK.1 hP fM rfl 2 (by decide) (hts _ k_57) (fun _ h9 => h9) rfl d_Ma_fit_4 ?_
    refine lv_icmp_ge (tgt := 41) hx hb d_Ma_fit_7 (by decide) (fun _ => ?_) (fun h9 => absurd (nI_le (show ms.length ≤ i by omega) (by omega)) h9)
    refine lv_iconst (v := 1) hx hb d_Ma_fit_41 (by decide) ?_
    exact W.zret hx hb hr rfl (fun t ht _ => ⟨_, rfl, (by first | (simp [fitN] at hinv; simp [bI, ← hinv]; done) | (simp_all [fitN, bI]; done)), ht⟩) (fun _ h => nomatch h) d_Ma_fit_42
  | succ n ih =>
    refine lv_iload_n hx hb d_Ma_fit_2 rfl (lv_at hl 0 rfl) ?_
    refine lv_aload_n hx hb d_Ma_fit_3 rfl (lv_at hl 1 rfl) ?_
    refine g_get hx hb hts i_Ma hown hK.1 hP fM rfl 2 (by decide) (hts _ k_57) (fun _ h9 => h9) rfl d_Ma_fit_4 ?_
    refine lv_icmp_ge (tgt := 41) hx hb d_Ma_fit_7 (by decide) (fun h9 => absurd h9 (nI_ge (show i < ms.length by omega) (by omega))) (fun _ => ?_)
    refine lv_aload_n hx hb d_Ma_fit_10 rfl (lv_at hl 1 rfl) ?_
    refine g_get hx hb hts i_Ma hown hK.1 hP fM rfl 0 (by decide) (hts _ k_55) (fun _ h9 => h9) rfl d_Ma_fit_11 ?_
    refine lv_iload_n hx hb d_Ma_fit_14 rfl (lv_at hl 0 rfl) ?_
    refine g_iald (v := (ms.getD i (0, 0)).1) hx hb hK.1 hP 0 fK rfl (vp_in_nI (show i < 3 by omega) (by omega)) (by rw [nI_clamp (show i < 2 ^ 31 by omega), (hms i (by omega)).1]) d_Ma_fit_15 ?_
    refine lv_aload_n hx hb d_Ma_fit_16 rfl (lv_at hl 1 rfl) ?_
    refine g_get hx hb hts i_Ma hown hK.1 hP fM rfl 1 (by decide) (hts _ k_56) (fun _ h9 => h9) rfl d_Ma_fit_17 ?_
    refine lv_iload_n hx hb d_Ma_fit_20 rfl (lv_at hl 0 rfl) ?_
    refine g_iald (v := (ms.getD i (0, 0)).2) hx hb hK.1 hP 0 fV rfl (vp_in_nI (show i < 3 by omega) (by omega)) (by rw [nI_clamp (show i < 2 ^ 31 by omega), (hms i (by omega)).2]) d_Ma_fit_21 ?_
    refine lv_aload_n hx hb d_Ma_fit_22 rfl (lv_at hl 2 rfl) ?_
    refine lv_iload_n hx hb d_Ma_fit_23 rfl (lv_at hl 0 rfl) ?_
    refine g_ri (g_runV (As := [.int (nI i)]) (rest := [.int ((ms.getD i (0, 0)).2), .int ((ms.getD i (0, 0)).1)]) ⟨hx, hb, hml, hown, hts⟩ (c_In_argument l hi (nI i)) st_In_argument k_330 ⟨rfl, rfl, by decide, by decide⟩ rfl (gI.preV hK va_S.rf hP hi rfl _) rfl hl.1 rfl (Nat.le_of_ble_eq_true rfl) d_Ma_fit_24 ⟨by decide, by decide⟩) (fun r3 hr3 => ?_)
    subst hr3
    refine g_ri (g_runS (As := [.int ((ms.getD i (0, 0)).1), .int ((ms.getD i (0, 0)).2), .int (argP (iX t) (nI i))]) (rest := []) ⟨hx, hb, hml, hown, hts⟩ (c_Ma_fitsOne l ((ms.getD i (0, 0)).1) ((ms.getD i (0, 0)).2) (argP (iX t) (nI i))) st_Ma_fitsOne k_334 ⟨rfl, rfl, by decide, by decide⟩ (gT_pre _) rfl hl.1 rfl (Nat.le_of_ble_eq_true rfl) d_Ma_fit_27 ⟨by decide, by decide⟩) (fun r4 hr4 => ?_)
    subst hr4
    refine lv_if_ne (tgt := 35) hx hb d_Ma_fit_30 (by decide) (fun c5 => ?_) (fun c5 => ?_)
    · skip
      refine lv_iinc (v := nI (i + 1)) (lv' := [(2, .int (nI (i + 1))), (0, .ref h), (1, .ref h2)]) hx hb d_Ma_fit_35 hl (k := 0) rfl (nI_1 _) (by decide) rfl (fun ls hl => ?_)
      refine lv_goto (tgt := 2) hx hb d_Ma_fit_38 (by decide) ?_
      exact ih _ _ (by omega) hl (by simp_all [fitN, bI_0])
    · skip
      refine lv_iconst (v := 0) hx hb d_Ma_fit_33 (by decide) ?_
      exact W.zret hx hb hr rfl (fun t ht _ => ⟨_, rfl, (by first | (simp [fitN] at hinv; simp [bI, ← hinv]; done) | (simp_all [fitN, bI]; done)), ht⟩) (fun _ h => nomatch h) d_Ma_fit_34
