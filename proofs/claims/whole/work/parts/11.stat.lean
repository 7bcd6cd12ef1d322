set_option maxHeartbeats 4000000 in
set_option maxRecDepth 100000 in
theorem c_MB_isWithin (l : Launch)  (x lo hi : Int32) : Met l y_MB_isWithin (Cond.code y_MB_isWithin b_MB_isWithin 3 (some .boolean) :: TT) ({ frames := 0, cells := 0, slots := 0, locals := 0 }) (va_Pc [.int x, .int lo, .int hi] (fun _ => True)) (vp_Si (fun r => r = bI (inR x lo hi))) 0 0 (fun _ => False) := by
  refine Met.ofG (own := R_MB) (by decide) rfl (Nat.le_of_ble_eq_true rfl) ?_
  intro p e s m below meth c ls hx hb hr hlk hml hown hnm hts hI hl
  have hl : lv_has ls 3 [(0, .int x), (1, .int lo), (2, .int hi)] := hl
  refine lv_iload_n hx hb d_MB_isWithin_0 rfl (lv_at hl 0 rfl) ?_
  refine lv_iload_n hx hb d_MB_isWithin_1 rfl (lv_at hl 1 rfl) ?_
  refine lv_icmp_lt (tgt := 14) hx hb d_MB_isWithin_2 (by decide) (fun c1 => ?_) (fun c1 => ?_)
  · skip
    refine lv_iconst (v := 0) hx hb d_MB_isWithin_14 (by decide) ?_
    exact W.zret hx hb hr rfl (fun t ht _ => ⟨_, rfl, (by simp [bI, inR, *]), ht⟩) (fun _ h => nomatch h) d_MB_isWithin_15
  · skip
    refine lv_iload_n hx hb d_MB_isWithin_5 rfl (lv_at hl 0 rfl) ?_
    refine lv_iload_n hx hb d_MB_isWithin_6 rfl (lv_at hl 2 rfl) ?_
    refine lv_icmp_gt (tgt := 14) hx hb d_MB_isWithin_7 (by decide) (fun c2 => ?_) (fun c2 => ?_)
    · skip
      refine lv_iconst (v := 0) hx hb d_MB_isWithin_14 (by decide) ?_
      exact W.zret hx hb hr rfl (fun t ht _ => ⟨_, rfl, (by simp [bI, inR, *]), ht⟩) (fun _ h => nomatch h) d_MB_isWithin_15
    · skip
      refine lv_iconst (v := 1) hx hb d_MB_isWithin_10 (by decide) ?_
      refine lv_goto (tgt := 15) hx hb d_MB_isWithin_11 (by decide) ?_
      exact W.zret hx hb hr rfl (fun t ht _ => ⟨_, rfl, (by simp [bI, inR, *]), ht⟩) (fun _ h => nomatch h) d_MB_isWithin_15
set_option maxHeartbeats 4000000 in
set_option maxRecDepth 100000 in
theorem c_MB_isMock (l : Launch)  (x : Int32) : Met l y_MB_isMock (Cond.code y_MB_isMock b_MB_isMock 1 (some .boolean) :: TT) ({ frames := 1, cells := 0, slots := 0, locals := 22 }) (va_Pc [.int x] (fun _ => True)) (vp_Si (fun r => r = bI (inR x 0 3))) 0 0 (fun _ => False) := by
  refine Met.ofG (own := R_MB) (by decide) rfl (Nat.le_of_ble_eq_true rfl) ?_
  intro p e s m below meth c ls hx hb hr hlk hml hown hnm hts hI hl
  have hl : lv_has ls 1 [(0, .int x)] := hl
  refine lv_iload_n hx hb d_MB_isMock_0 rfl (lv_at hl 0 rfl) ?_
  refine lv_iconst (v := 0) hx hb d_MB_isMock_1 (by decide) ?_
  refine lv_iconst (v := 3) hx hb d_MB_isMock_2 (by decide) ?_
  refine g_ri (g_runS (As := [.int x, .int 0, .int 3]) (rest := []) ⟨hx, hb, hml, hown, hts⟩ (c_MB_isWithin l x 0 3) st_MB_isWithin k_88 ⟨rfl, rfl, by decide, by decide⟩ (gT_pre _) rfl hl.1 rfl (Nat.le_of_ble_eq_true rfl) d_MB_isMock_3 ⟨by decide, by decide⟩) (fun r1 hr1 => ?_)
  subst hr1
  exact W.zret hx hb hr (bI_nar _) (fun t ht _ => ⟨_, rfl, rfl, ht⟩) (fun _ h => nomatch h) d_MB_isMock_6
set_option maxHeartbeats 4000000 in
set_option maxRecDepth 100000 in
theorem c_MB_isMethod (l : Launch)  (x z : Int32) : Met l y_MB_isMethod (Cond.code y_MB_isMethod b_MB_isMethod 2 (some .boolean) :: TT) ({ frames := 2, cells := 0, slots := 0, locals := 42 }) (va_Pc [.int x, .int z] (fun _ => True)) (vp_Si (fun r => r = bI (inR x 0 3 && inR z 0 7))) 0 0 (fun _ => False) := by
  refine Met.ofG (own := R_MB) (by decide) rfl (Nat.le_of_ble_eq_true rfl) ?_
  intro p e s m below meth c ls hx hb hr hlk hml hown hnm hts hI hl
  have hl : lv_has ls 2 [(0, .int x), (1, .int z)] := hl
  refine lv_iload_n hx hb d_MB_isMethod_0 rfl (lv_at hl 0 rfl) ?_
  refine g_ri (g_runS (As := [.int x]) (rest := []) ⟨hx, hb, hml, hown, hts⟩ (c_MB_isMock l x) st_MB_isMock k_110 ⟨rfl, rfl, by decide, by decide⟩ (gT_pre _) rfl hl.1 rfl (Nat.le_of_ble_eq_true rfl) d_MB_isMethod_1 ⟨by decide, by decide⟩) (fun r1 hr1 => ?_)
  subst hr1
  refine lv_if_eq (tgt := 21) hx hb d_MB_isMethod_4 (by decide) (fun c2 => ?_) (fun c2 => ?_)
  · skip
    refine lv_iconst (v := 0) hx hb d_MB_isMethod_21 (by decide) ?_
    exact W.zret hx hb hr rfl (fun t ht _ => ⟨_, rfl, (by simp_all [bI_0, bI]), ht⟩) (fun _ h => nomatch h) d_MB_isMethod_22
  · skip
    refine lv_iload_n hx hb d_MB_isMethod_7 rfl (lv_at hl 1 rfl) ?_
    refine lv_iconst (v := 0) hx hb d_MB_isMethod_8 (by decide) ?_
    refine lv_bipush (v := 7) hx hb d_MB_isMethod_9 (by decide) ?_
    refine g_ri (g_runS (As := [.int z, .int 0, .int 7]) (rest := []) ⟨hx, hb, hml, hown, hts⟩ (c_MB_isWithin l z 0 7) st_MB_isWithin k_88 ⟨rfl, rfl, by decide, by decide⟩ (gT_pre _) rfl hl.1 rfl (Nat.le_of_ble_eq_true rfl) d_MB_isMethod_11 ⟨by decide, by decide⟩) (fun r3 hr3 => ?_)
    subst hr3
    refine lv_if_eq (tgt := 21) hx hb d_MB_isMethod_14 (by decide) (fun c4 => ?_) (fun c4 => ?_)
    · skip
      refine lv_iconst (v := 0) hx hb d_MB_isMethod_21 (by decide) ?_
      exact W.zret hx hb hr rfl (fun t ht _ => ⟨_, rfl, (by simp_all [bI_0, bI]), ht⟩) (fun _ h => nomatch h) d_MB_isMethod_22
    · skip
      refine lv_iconst (v := 1) hx hb d_MB_isMethod_17 (by decide) ?_
      refine lv_goto (tgt := 22) hx hb d_MB_isMethod_18 (by decide) ?_
      exact W.zret hx hb hr rfl (fun t ht _ => ⟨_, rfl, (by simp_all [bI_0, bI]), ht⟩) (fun _ h => nomatch h) d_MB_isMethod_22
set_option maxHeartbeats 4000000 in
set_option maxRecDepth 100000 in
theorem c_MB_argumentsOf (l : Launch)  (x : Int32) : Met l y_MB_argumentsOf (Cond.code y_MB_argumentsOf b_MB_argumentsOf 1 (some .int) :: TT) ({ frames := 0, cells := 0, slots := 0, locals := 0 }) (va_Pc [.int x] (fun _ => True)) (vp_Si (fun r => r = x - x / 4 * 4)) 0 0 (fun _ => False) := by
  refine Met.ofG (own := R_MB) (by decide) rfl (Nat.le_of_ble_eq_true rfl) ?_
  intro p e s m below meth c ls hx hb hr hlk hml hown hnm hts hI hl
  have hl : lv_has ls 1 [(0, .int x)] := hl
  refine lv_iload_n hx hb d_MB_argumentsOf_0 rfl (lv_at hl 0 rfl) ?_
  refine lv_iconst (v := 4) hx hb d_MB_argumentsOf_1 (by decide) ?_
  refine lv_irem hx hb d_MB_argumentsOf_2 (by decide) ?_
  exact W.iret hx hb hr (fun t ht _ => ⟨_, rfl, rfl, ht⟩) (fun _ h => nomatch h) d_MB_argumentsOf_3
set_option maxHeartbeats 4000000 in
set_option maxRecDepth 100000 in
theorem c_MB_asNumber (l : Launch)  (x : Int32) : Met l y_MB_asNumber (Cond.code y_MB_asNumber b_MB_asNumber 1 (some .int) :: TT) ({ frames := 0, cells := 0, slots := 0, locals := 0 }) (va_Pc [.int x] (fun _ => True)) (vp_Si (fun r => r = (if x = 0 then 0 else 1))) 0 0 (fun _ => False) := by
  refine Met.ofG (own := R_MB) (by decide) rfl (Nat.le_of_ble_eq_true rfl) ?_
  intro p e s m below meth c ls hx hb hr hlk hml hown hnm hts hI hl
  have hl : lv_has ls 1 [(0, .int x)] := hl
  refine lv_iload_n hx hb d_MB_asNumber_0 rfl (lv_at hl 0 rfl) ?_
  refine lv_if_eq (tgt := 8) hx hb d_MB_asNumber_1 (by decide) (fun c1 => ?_) (fun c1 => ?_)
  · skip
    refine lv_iconst (v := 0) hx hb d_MB_asNumber_8 (by decide) ?_
    exact W.iret hx hb hr (fun t ht _ => ⟨_, rfl, (by simp [*]), ht⟩) (fun _ h => nomatch h) d_MB_asNumber_9
  · skip
    refine lv_iconst (v := 1) hx hb d_MB_asNumber_4 (by decide) ?_
    refine lv_goto (tgt := 9) hx hb d_MB_asNumber_5 (by decide) ?_
    exact W.iret hx hb hr (fun t ht _ => ⟨_, rfl, (by simp [*]), ht⟩) (fun _ h => nomatch h) d_MB_asNumber_9
set_option maxHeartbeats 4000000 in
set_option maxRecDepth 100000 in
theorem c_MB_isWanted (l : Launch)  (x z n : Int32) : Met l y_MB_isWanted (Cond.code y_MB_isWanted b_MB_isWanted 3 (some .boolean) :: TT) ({ frames := 0, cells := 0, slots := 0, locals := 0 }) (va_Pc [.int x, .int z, .int n] (fun _ => True)) (vp_Si (fun r => r = bI (wantd x z n))) 0 0 (fun _ => False) := by
  refine Met.ofG (own := R_MB) (by decide) rfl (Nat.le_of_ble_eq_true rfl) ?_
  intro p e s m below meth c ls hx hb hr hlk hml hown hnm hts hI hl
  have hl : lv_has ls 3 [(0, .int x), (1, .int z), (2, .int n)] := hl
  refine lv_iload_n hx hb d_MB_isWanted_0 rfl (lv_at hl 1 rfl) ?_
  by_cases c1 : z = 0
  · refine lv_lookup (off := 27) (tgt := 28) hx hb d_MB_isWanted_1 (by decide) (by rw [c1]; decide) (by decide) ?_
    refine lv_iload_n hx hb d_MB_isWanted_28 rfl (lv_at hl 0 rfl) ?_
    refine lv_iload_n hx hb d_MB_isWanted_29 rfl (lv_at hl 2 rfl) ?_
    refine lv_icmp_ne (tgt := 37) hx hb d_MB_isWanted_30 (by decide) (fun c2 => ?_) (fun c2 => ?_)
    · skip
      refine lv_iconst (v := 0) hx hb d_MB_isWanted_37 (by decide) ?_
      exact W.zret hx hb hr rfl (fun t ht _ => ⟨_, rfl, (by simp [bI, wantd, *]), ht⟩) (fun _ h => nomatch h) d_MB_isWanted_38
    · skip
      refine lv_iconst (v := 1) hx hb d_MB_isWanted_33 (by decide) ?_
      refine lv_goto (tgt := 38) hx hb d_MB_isWanted_34 (by decide) ?_
      exact W.zret hx hb hr rfl (fun t ht _ => ⟨_, rfl, (by simp [bI, wantd, *]), ht⟩) (fun _ h => nomatch h) d_MB_isWanted_38
  by_cases c3 : z = 1
  · refine lv_lookup (off := 38) (tgt := 39) hx hb d_MB_isWanted_1 (by decide) (by rw [c3]; decide) (by decide) ?_
    refine lv_iload_n hx hb d_MB_isWanted_39 rfl (lv_at hl 0 rfl) ?_
    refine lv_iload_n hx hb d_MB_isWanted_40 rfl (lv_at hl 2 rfl) ?_
    refine lv_icmp_lt (tgt := 48) hx hb d_MB_isWanted_41 (by decide) (fun c4 => ?_) (fun c4 => ?_)
    · skip
      refine lv_iconst (v := 0) hx hb d_MB_isWanted_48 (by decide) ?_
      exact W.zret hx hb hr rfl (fun t ht _ => ⟨_, rfl, (by simp [bI, wantd, *]), ht⟩) (fun _ h => nomatch h) d_MB_isWanted_49
    · skip
      refine lv_iconst (v := 1) hx hb d_MB_isWanted_44 (by decide) ?_
      refine lv_goto (tgt := 49) hx hb d_MB_isWanted_45 (by decide) ?_
      exact W.zret hx hb hr rfl (fun t ht _ => ⟨_, rfl, (by simp [bI, wantd, *]), ht⟩) (fun _ h => nomatch h) d_MB_isWanted_49
  refine lv_lookup (off := 49) (tgt := 50) hx hb d_MB_isWanted_1 (by decide) (by show Op.lookupswitch.offset [(0, 27), (1, 38)] 49 _ = _; rw [lv_osw c1 (show (0 : Int32).toInt = 0 by decide)]; rw [lv_osw c3 (show (1 : Int32).toInt = 1 by decide)]; rfl) (by decide) ?_
  refine lv_iload_n hx hb d_MB_isWanted_50 rfl (lv_at hl 0 rfl) ?_
  refine lv_iload_n hx hb d_MB_isWanted_51 rfl (lv_at hl 2 rfl) ?_
  refine lv_icmp_gt (tgt := 59) hx hb d_MB_isWanted_52 (by decide) (fun c5 => ?_) (fun c5 => ?_)
  · skip
    refine lv_iconst (v := 0) hx hb d_MB_isWanted_59 (by decide) ?_
    exact W.zret hx hb hr rfl (fun t ht _ => ⟨_, rfl, (by simp [bI, wantd, *]), ht⟩) (fun _ h => nomatch h) d_MB_isWanted_60
  · skip
    refine lv_iconst (v := 1) hx hb d_MB_isWanted_55 (by decide) ?_
    refine lv_goto (tgt := 60) hx hb d_MB_isWanted_56 (by decide) ?_
    exact W.zret hx hb hr rfl (fun t ht _ => ⟨_, rfl, (by simp [bI, wantd, *]), ht⟩) (fun _ h => nomatch h) d_MB_isWanted_60