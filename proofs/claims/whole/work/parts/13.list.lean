set_option maxHeartbeats 4000000 in
set_option maxRecDepth 100000 in
theorem c_Pc_checkIndex (l : Launch)  {x n : Int32} (h0 : ¬ x < 0) (h1 : x < n) : Met l y_Pc_checkIndex (Cond.code y_Pc_checkIndex b_Pc_checkIndex 3 (some .int) :: TT) ({ frames := 0, cells := 0, slots := 0, locals := 0 }) (va_Pc [.int x, .int n, .null] (fun _ => True)) (vp_Si (fun r => r = x)) 0 0 (fun _ => False) := by
  refine Met.ofG (own := R_Pc) (by decide) rfl (Nat.le_of_ble_eq_true rfl) ?_
  intro p e s m below meth c ls hx hb hr hlk hml hown hnm hts hI hl
  have hl : lv_has ls 3 [(0, .int x), (1, .int n), (2, .null)] := hl
  refine lv_iload_n hx hb d_Pc_checkIndex_0 rfl (lv_at hl 0 rfl) ?_
  refine lv_if_lt (tgt := 9) hx hb d_Pc_checkIndex_1 (by decide) (fun h9 => absurd h9 h0) (fun _ => ?_)
  refine lv_iload_n hx hb d_Pc_checkIndex_4 rfl (lv_at hl 0 rfl) ?_
  refine lv_iload_n hx hb d_Pc_checkIndex_5 rfl (lv_at hl 1 rfl) ?_
  refine lv_icmp_lt (tgt := 16) hx hb d_Pc_checkIndex_6 (by decide) (fun _ => ?_) (fun h9 => absurd h1 h9)
  refine lv_iload_n hx hb d_Pc_checkIndex_16 rfl (lv_at hl 0 rfl) ?_
  exact W.iret hx hb hr (fun t ht _ => ⟨_, rfl, rfl, ht⟩) (fun _ h => nomatch h) d_Pc_checkIndex_17
set_option maxHeartbeats 4000000 in
set_option maxRecDepth 100000 in
theorem c_Os_checkIndex (l : Launch)  {x n : Int32} (h0 : ¬ x < 0) (h1 : x < n) : Met l y_Os_checkIndex (Cond.code y_Os_checkIndex b_Os_checkIndex 2 (some .int) :: TT) ({ frames := 1, cells := 0, slots := 0, locals := 22 }) (va_Pc [.int x, .int n] (fun _ => True)) (vp_Si (fun r => r = x)) 0 0 (fun _ => False) := by
  refine Met.ofG (own := R_Os) (by decide) rfl (Nat.le_of_ble_eq_true rfl) ?_
  intro p e s m below meth c ls hx hb hr hlk hml hown hnm hts hI hl
  have hl : lv_has ls 2 [(0, .int x), (1, .int n)] := hl
  refine lv_iload_n hx hb d_Os_checkIndex_0 rfl (lv_at hl 0 rfl) ?_
  refine lv_iload_n hx hb d_Os_checkIndex_1 rfl (lv_at hl 1 rfl) ?_
  refine lv_null hx hb d_Os_checkIndex_2 ?_
  refine g_ri (g_runS (As := [.int x, .int n, .null]) (rest := []) ⟨hx, hb, hml, hown, hts⟩ (c_Pc_checkIndex l h0 h1) st_Pc_checkIndex k_229 ⟨rfl, rfl, by decide, by decide⟩ (gT_pre _) rfl hl.1 rfl (Nat.le_of_ble_eq_true rfl) d_Os_checkIndex_3 ⟨by decide, by decide⟩) (fun r1 hr1 => ?_)
  subst hr1
  exact W.iret hx hb hr (fun t ht _ => ⟨_, rfl, rfl, ht⟩) (fun _ h => nomatch h) d_Os_checkIndex_6
set_option maxHeartbeats 4000000 in
set_option maxRecDepth 100000 in
theorem c_AL_size (l : Launch) {D : va_G} {cI cZ cO cL : ClassId} {b e0 : Nat} {A : gW} {w kk ci h n : Nat} {ad : Nat → Nat} (hL : rAL cO e0 A w kk ci h n ad) : Met l y_AL_size (Cond.code y_AL_size b_AL_size 1 (some .int) :: TT) ({ frames := 0, cells := 0, slots := 0, locals := 0 }) (va_Pc [.ref h] (gI D [(cI, .int), (cZ, .boolean), (cO, .object "java/lang/Object"), (cL, .long)] b e0 A)) (vp_Si (fun r => r = nI n)) 0 0 (fun _ => False) := by
  refine Met.ofG (own := R_AL) (by decide) rfl (Nat.le_of_ble_eq_true rfl) ?_
  intro p e s m below meth c ls hx hb hr hlk hml hown hnm hts hI hl
  have hl : lv_has ls 1 [(0, .ref h)] := hl
  obtain ⟨hP, hK⟩ := hI
  obtain ⟨mo, q, cap, f, fL, hq, fE, hel⟩ := hL
  refine lv_aload_n hx hb d_AL_size_0 rfl (lv_at hl 0 rfl) ?_
  refine g_get hx hb hts i_AL hown hK.1 hP fL rfl 2 (by decide) (hts _ k_38) (fun _ h9 => h9) rfl d_AL_size_1 ?_
  exact W.iret hx hb hr (fun t ht _ => ⟨_, rfl, rfl, ht⟩) (fun _ h => nomatch h) d_AL_size_4
set_option maxHeartbeats 4000000 in
set_option maxRecDepth 100000 in
theorem c_AL_elementData (l : Launch) {D : va_G} {cI cZ cO cL : ClassId} {b e0 : Nat} {A : gW} {w kk ci h n : Nat} {ad : Nat → Nat} (hL : rAL cO e0 A w kk ci h n ad) {i : Nat} (hi : i < n) : Met l y_AL_elementData (Cond.code y_AL_elementData b_AL_elementData 2 (some (.object "java/lang/Object")) :: TT) ({ frames := 0, cells := 0, slots := 0, locals := 0 }) (va_Pc [.ref h, .int (nI i)] (gI D [(cI, .int), (cZ, .boolean), (cO, .object "java/lang/Object"), (cL, .long)] b e0 A)) (gSr (ad i)) 0 0 (fun _ => False) := by
  refine Met.ofG (own := R_AL) (by decide) rfl (Nat.le_of_ble_eq_true rfl) ?_
  intro p e s m below meth c ls hx hb hr hlk hml hown hnm hts hI hl
  have hl : lv_has ls 2 [(0, .ref h), (1, .int (nI i))] := hl
  obtain ⟨hP, hK⟩ := hI
  obtain ⟨mo, q, cap, f, fL, hq, fE, hel⟩ := hL
  rcases hq with ⟨h0, -⟩ | ⟨fA, hc0, hnc, hc1, hf⟩
  · omega
  refine lv_aload_n hx hb d_AL_elementData_0 rfl (lv_at hl 0 rfl) ?_
  refine g_get hx hb hts i_AL hown hK.1 hP fL rfl 1 (by decide) (hts _ k_37) (fun _ h9 => h9) rfl d_AL_elementData_1 ?_
  refine lv_iload_n hx hb d_AL_elementData_4 rfl (lv_at hl 1 rfl) ?_
  refine g_aald (v := .ref ((ad i))) hx hb hK.1 hP 2 fA rfl (vp_in_nI (show i < cap by omega) (by omega)) (by rw [nI_clamp (show i < 2 ^ 31 by omega), hf i hi, show va_rf (some (ad i)) = .ref (ad i) from rfl]) d_AL_elementData_5 ?_
  exact W.aret hx hb hr (Or.inl ⟨_, rfl⟩) (Or.inr ⟨_, rfl⟩) (fun t ht _ => ⟨rfl, ht⟩) (fun _ h => nomatch h) d_AL_elementData_6
set_option maxHeartbeats 4000000 in
set_option maxRecDepth 100000 in
theorem c_AL_get (l : Launch) {D : va_G} {cI cZ cO cL : ClassId} {b e0 : Nat} {A : gW} {w kk ci h n : Nat} {ad : Nat → Nat} (hL : rAL cO e0 A w kk ci h n ad) {i : Nat} (hi : i < n) : Met l y_AL_get (Cond.code y_AL_get b_AL_get 2 (some (.object "java/lang/Object")) :: TT) ({ frames := 2, cells := 0, slots := 0, locals := 43 }) (va_Pc [.ref h, .int (nI i)] (gI D [(cI, .int), (cZ, .boolean), (cO, .object "java/lang/Object"), (cL, .long)] b e0 A)) (gSr (ad i)) 0 0 (fun _ => False) := by
  refine Met.ofG (own := R_AL) (by decide) rfl (Nat.le_of_ble_eq_true rfl) ?_
  intro p e s m below meth c ls hx hb hr hlk hml hown hnm hts hI hl
  have hl : lv_has ls 2 [(0, .ref h), (1, .int (nI i))] := hl
  obtain ⟨hP, hK⟩ := hI
  have hL := hL
  obtain ⟨mo, q, cap, f, fL, hq, fE, hel⟩ := id hL
  have hn : n ≤ 240 := by rcases hq with ⟨h0, -⟩ | ⟨fA, hc0, hnc, hc1, hf⟩ <;> omega
  refine lv_iload_n hx hb d_AL_get_0 rfl (lv_at hl 1 rfl) ?_
  refine lv_aload_n hx hb d_AL_get_1 rfl (lv_at hl 0 rfl) ?_
  refine g_get hx hb hts i_AL hown hK.1 hP fL rfl 2 (by decide) (hts _ k_38) (fun _ h9 => h9) rfl d_AL_get_2 ?_
  refine g_ri (g_runS (As := [.int (nI i), .int (nI n)]) (rest := []) ⟨hx, hb, hml, hown, hts⟩ (c_Os_checkIndex l (nI_pos (show i < 2 ^ 31 by omega)) (nI_lt hi (by omega))) st_Os_checkIndex k_226 ⟨rfl, rfl, by decide, by decide⟩ (gT_pre _) rfl hl.1 rfl (Nat.le_of_ble_eq_true rfl) d_AL_get_5 ⟨by decide, by decide⟩) (fun r1 hr1 => ?_)
  subst hr1
  refine lv_pop hx hb d_AL_get_8 rfl ?_
  refine lv_aload_n hx hb d_AL_get_9 rfl (lv_at hl 0 rfl) ?_
  refine lv_iload_n hx hb d_AL_get_10 rfl (lv_at hl 1 rfl) ?_
  refine g_rr (g_runV (As := [.int (nI i)]) (rest := []) ⟨hx, hb, hml, hown, hts⟩ (c_AL_elementData l hL hi) st_AL_elementData k_232 ⟨rfl, rfl, by decide, by decide⟩ rfl (gI.preV hK va_S.rf hP fL rfl _) rfl hl.1 rfl (Nat.le_of_ble_eq_true rfl) d_AL_get_11 ⟨by decide, by decide⟩) ?_
  exact W.aret hx hb hr (Or.inl ⟨_, rfl⟩) (Or.inr ⟨_, rfl⟩) (fun t ht _ => ⟨rfl, ht⟩) (fun _ h => nomatch h) d_AL_get_14
