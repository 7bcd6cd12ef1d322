set_option maxHeartbeats 4000000 in
set_option maxRecDepth 100000 in
theorem c_MM_note (l : Launch) {D : va_G} {cI cZ cO cL : ClassId} {b e0 : Nat} {A : gW} {h : Nat} {ad : Nat → Nat} {F : Nat → Nat → Int32} {G : Nat → Int64} {bn rn nn m1 : Nat} (hM : rMM cI cZ cL A h ad F G bn rn nn m1) (hnn : nn < 160) (mk mt dp : Nat) (fr : Int32) : Met l y_MM_note (Cond.code y_MM_note b_MM_note 6 (some .int) :: TT) ({ frames := 0, cells := 0, slots := 0, locals := 0 }) (va_Pc [.ref h, .int (nI mk), .int (nI mt), .int (nI dp), .int fr] (gI D [(cI, .int), (cZ, .boolean), (cO, .object "java/lang/Object"), (cL, .long)] b e0 A)) (va_Qi (fun (z : Int32) (A2 : gW) => z = nI nn ∧ rMM cI cZ cL A2 h ad (nF F nn mk mt dp fr) G bn rn (nn + 1) m1 ∧ gL A A2) (fun A2 t => gP D classes b A2 t.heap) (fun q => b ≤ q)) 0 0 (fun q => b ≤ q) := by
  refine Met.ofG (own := R_MM) (by decide +kernel) rfl (Nat.le_of_ble_eq_true rfl) ?_
  intro p e s m below meth c ls hx hb hr hlk hml hown hnm hts hI hl
  have hl : lv_has ls 6 [(0, .ref h), (1, .int (nI mk)), (2, .int (nI mt)), (3, .int (nI dp)), (4, .int fr)] := hl
  have hS : gS b s.heap s.heap [] := va_S.rf
  obtain ⟨hP, hK⟩ := hI
  refine lv_aload_n hx hb d_MM_note_0 rfl (lv_at hl 0 rfl) ?_
  refine g_get hx hb hts i_MM hown hK.1 hP (show A (20, 0) = some (h, .inr (5, [.ref (ad 0), .ref (ad 1), .int (nI bn), .ref (ad 3), .ref (ad 4), .ref (ad 5), .ref (ad 6), .ref (ad 7), .ref (ad 8), .ref (ad 9), .ref (ad 10), .int (nI rn), .ref (ad 12), .ref (ad 13), .ref (ad 14), .ref (ad 15), .ref (ad 16), .ref (ad 17), .ref (ad 18), .ref (ad 19), .ref (ad 20), .ref (ad 21), .int (nI nn), .int (nI m1 - 1)])) from hM.1) rfl 22 (by decide) (hts _ k_465) (fun _ h9 => h9) rfl d_MM_note_1 ?_
  refine lv_istore (lv' := [(5, .int (nI nn)), (0, .ref h), (1, .int (nI mk)), (2, .int (nI mt)), (3, .int (nI dp)), (4, .int fr)]) hx hb d_MM_note_4 hl (by decide) rfl (fun ls hl => ?_)
  refine lv_aload_n hx hb d_MM_note_6 rfl (lv_at hl 1 rfl) ?_
  refine g_get hx hb hts i_MM hown hK.1 hP (show A (20, 0) = some (h, .inr (5, [.ref (ad 0), .ref (ad 1), .int (nI bn), .ref (ad 3), .ref (ad 4), .ref (ad 5), .ref (ad 6), .ref (ad 7), .ref (ad 8), .ref (ad 9), .ref (ad 10), .int (nI rn), .ref (ad 12), .ref (ad 13), .ref (ad 14), .ref (ad 15), .ref (ad 16), .ref (ad 17), .ref (ad 18), .ref (ad 19), .ref (ad 20), .ref (ad 21), .int (nI nn), .int (nI m1 - 1)])) from hM.1) rfl 13 (by decide) (hts _ k_456) (fun _ h9 => h9) rfl d_MM_note_7 ?_
  refine lv_iload hx hb d_MM_note_10 (lv_at hl 0 rfl) ?_
  refine lv_iload_n hx hb d_MM_note_12 rfl (lv_at hl 2 rfl) ?_
  refine g_iast (k := nn) hx hb hK.1 hP hS 0 (show A (34, 0) = some (ad 13, .inl (cI, 160, .inl (F 13))) from hM.2.1 13 rfl) rfl (vp_in_nI (show nn < 160 by omega) (by omega)) (nI_clamp (show nn < 2 ^ 31 by omega)) d_MM_note_13 (fun H locs hP hS => ?_)
  obtain ⟨A1, eA1⟩ : ∃ z, z = gU A (34, 0) (ad 13, .inl (cI, 160, .inl (upd (F 13) (nn) (nI mk)))) := ⟨_, rfl⟩
  replace hP : gP D classes b A1 H := by rw [eA1]; exact hP
  have hM2 : rMM cI cZ cL A1 h ad (va_up F 13 (upd (F 13) (nn) (nI mk))) G bn rn nn m1 := by rw [eA1]; exact hM.put 13 rfl _
  have glA1 : gL A A1 := by rw [eA1]; exact gL.rf.U (by decide)
  refine lv_aload_n hx hb d_MM_note_14 rfl (lv_at hl 1 rfl) ?_
  refine g_get hx hb hts i_MM hown hK.1 hP (show A1 (20, 0) = some (h, .inr (5, [.ref (ad 0), .ref (ad 1), .int (nI bn), .ref (ad 3), .ref (ad 4), .ref (ad 5), .ref (ad 6), .ref (ad 7), .ref (ad 8), .ref (ad 9), .ref (ad 10), .int (nI rn), .ref (ad 12), .ref (ad 13), .ref (ad 14), .ref (ad 15), .ref (ad 16), .ref (ad 17), .ref (ad 18), .ref (ad 19), .ref (ad 20), .ref (ad 21), .int (nI nn), .int (nI m1 - 1)])) from hM2.1) rfl 14 (by decide) (hts _ k_457) (fun _ h9 => h9) rfl d_MM_note_15 ?_
  refine lv_iload hx hb d_MM_note_18 (lv_at hl 0 rfl) ?_
  refine lv_iload_n hx hb d_MM_note_20 rfl (lv_at hl 3 rfl) ?_
  refine g_iast (k := nn) hx hb hK.1 hP hS 0 (show A1 (35, 0) = some (ad 14, .inl (cI, 160, .inl (F 14))) from hM2.2.1 14 rfl) rfl (vp_in_nI (show nn < 160 by omega) (by omega)) (nI_clamp (show nn < 2 ^ 31 by omega)) d_MM_note_21 (fun H locs hP hS => ?_)
  obtain ⟨A3, eA3⟩ : ∃ z, z = gU A1 (35, 0) (ad 14, .inl (cI, 160, .inl (upd (F 14) (nn) (nI mt)))) := ⟨_, rfl⟩
  replace hP : gP D classes b A3 H := by rw [eA3]; exact hP
  have hM4 : rMM cI cZ cL A3 h ad (va_up (va_up F 13 (upd (F 13) (nn) (nI mk))) 14 (upd (F 14) (nn) (nI mt))) G bn rn nn m1 := by rw [eA3]; exact hM2.put 14 rfl _
  have glA3 : gL A A3 := by rw [eA3]; exact glA1.U (by decide)
  refine lv_aload_n hx hb d_MM_note_22 rfl (lv_at hl 1 rfl) ?_
  refine g_get hx hb hts i_MM hown hK.1 hP (show A3 (20, 0) = some (h, .inr (5, [.ref (ad 0), .ref (ad 1), .int (nI bn), .ref (ad 3), .ref (ad 4), .ref (ad 5), .ref (ad 6), .ref (ad 7), .ref (ad 8), .ref (ad 9), .ref (ad 10), .int (nI rn), .ref (ad 12), .ref (ad 13), .ref (ad 14), .ref (ad 15), .ref (ad 16), .ref (ad 17), .ref (ad 18), .ref (ad 19), .ref (ad 20), .ref (ad 21), .int (nI nn), .int (nI m1 - 1)])) from hM4.1) rfl 16 (by decide) (hts _ k_459) (fun _ h9 => h9) rfl d_MM_note_23 ?_
  refine lv_iload hx hb d_MM_note_26 (lv_at hl 0 rfl) ?_
  refine lv_iload_n hx hb d_MM_note_28 rfl (lv_at hl 4 rfl) ?_
  refine g_iast (k := nn) hx hb hK.1 hP hS 0 (show A3 (37, 0) = some (ad 16, .inl (cI, 160, .inl (F 16))) from hM4.2.1 16 rfl) rfl (vp_in_nI (show nn < 160 by omega) (by omega)) (nI_clamp (show nn < 2 ^ 31 by omega)) d_MM_note_29 (fun H locs hP hS => ?_)
  obtain ⟨A5, eA5⟩ : ∃ z, z = gU A3 (37, 0) (ad 16, .inl (cI, 160, .inl (upd (F 16) (nn) (nI dp)))) := ⟨_, rfl⟩
  replace hP : gP D classes b A5 H := by rw [eA5]; exact hP
  have hM6 : rMM cI cZ cL A5 h ad (va_up (va_up (va_up F 13 (upd (F 13) (nn) (nI mk))) 14 (upd (F 14) (nn) (nI mt))) 16 (upd (F 16) (nn) (nI dp))) G bn rn nn m1 := by rw [eA5]; exact hM4.put 16 rfl _
  have glA5 : gL A A5 := by rw [eA5]; exact glA3.U (by decide)
  refine lv_aload_n hx hb d_MM_note_30 rfl (lv_at hl 1 rfl) ?_
  refine g_get hx hb hts i_MM hown hK.1 hP (show A5 (20, 0) = some (h, .inr (5, [.ref (ad 0), .ref (ad 1), .int (nI bn), .ref (ad 3), .ref (ad 4), .ref (ad 5), .ref (ad 6), .ref (ad 7), .ref (ad 8), .ref (ad 9), .ref (ad 10), .int (nI rn), .ref (ad 12), .ref (ad 13), .ref (ad 14), .ref (ad 15), .ref (ad 16), .ref (ad 17), .ref (ad 18), .ref (ad 19), .ref (ad 20), .ref (ad 21), .int (nI nn), .int (nI m1 - 1)])) from hM6.1) rfl 17 (by decide) (hts _ k_460) (fun _ h9 => h9) rfl d_MM_note_31 ?_
  refine lv_iload hx hb d_MM_note_34 (lv_at hl 0 rfl) ?_
  refine lv_iload hx hb d_MM_note_36 (lv_at hl 5 rfl) ?_
  refine g_iast (k := nn) hx hb hK.1 hP hS 0 (show A5 (38, 0) = some (ad 17, .inl (cI, 160, .inl (F 17))) from hM6.2.1 17 rfl) rfl (vp_in_nI (show nn < 160 by omega) (by omega)) (nI_clamp (show nn < 2 ^ 31 by omega)) d_MM_note_38 (fun H locs hP hS => ?_)
  obtain ⟨A7, eA7⟩ : ∃ z, z = gU A5 (38, 0) (ad 17, .inl (cI, 160, .inl (upd (F 17) (nn) (fr)))) := ⟨_, rfl⟩
  replace hP : gP D classes b A7 H := by rw [eA7]; exact hP
  have hM8 : rMM cI cZ cL A7 h ad (va_up (va_up (va_up (va_up F 13 (upd (F 13) (nn) (nI mk))) 14 (upd (F 14) (nn) (nI mt))) 16 (upd (F 16) (nn) (nI dp))) 17 (upd (F 17) (nn) (fr))) G bn rn nn m1 := by rw [eA7]; exact hM6.put 17 rfl _
  have glA7 : gL A A7 := by rw [eA7]; exact glA5.U (by decide)
  refine lv_aload_n hx hb d_MM_note_39 rfl (lv_at hl 1 rfl) ?_
  refine g_get hx hb hts i_MM hown hK.1 hP (show A7 (20, 0) = some (h, .inr (5, [.ref (ad 0), .ref (ad 1), .int (nI bn), .ref (ad 3), .ref (ad 4), .ref (ad 5), .ref (ad 6), .ref (ad 7), .ref (ad 8), .ref (ad 9), .ref (ad 10), .int (nI rn), .ref (ad 12), .ref (ad 13), .ref (ad 14), .ref (ad 15), .ref (ad 16), .ref (ad 17), .ref (ad 18), .ref (ad 19), .ref (ad 20), .ref (ad 21), .int (nI nn), .int (nI m1 - 1)])) from hM8.1) rfl 20 (by decide) (hts _ k_463) (fun _ h9 => h9) rfl d_MM_note_40 ?_
  refine lv_iload hx hb d_MM_note_43 (lv_at hl 0 rfl) ?_
  refine lv_iconst (v := 1) hx hb d_MM_note_45 (by decide) ?_
  refine g_zast (k := nn) hx hb hK.1 hP hS 1 (show A7 (41, 0) = some (ad 20, .inl (cZ, 160, .inl (F 20))) from hM8.2.1 20 rfl) rfl (vp_in_nI (show nn < 160 by omega) (by omega)) (nI_clamp (show nn < 2 ^ 31 by omega)) rfl d_MM_note_46 (fun H locs hP hS => ?_)
  obtain ⟨A9, eA9⟩ : ∃ z, z = gU A7 (41, 0) (ad 20, .inl (cZ, 160, .inl (upd (F 20) (nn) (1)))) := ⟨_, rfl⟩
  replace hP : gP D classes b A9 H := by rw [eA9]; exact hP
  have hM10 : rMM cI cZ cL A9 h ad (va_up (va_up (va_up (va_up (va_up F 13 (upd (F 13) (nn) (nI mk))) 14 (upd (F 14) (nn) (nI mt))) 16 (upd (F 16) (nn) (nI dp))) 17 (upd (F 17) (nn) (fr))) 20 (upd (F 20) (nn) (1))) G bn rn nn m1 := by rw [eA9]; exact hM8.put 20 rfl _
  have glA9 : gL A A9 := by rw [eA9]; exact glA7.U (by decide)
  refine lv_aload_n hx hb d_MM_note_47 rfl (lv_at hl 1 rfl) ?_
  refine lv_dup hx hb d_MM_note_48 rfl ?_
  refine g_get hx hb hts i_MM hown hK.1 hP (show A9 (20, 0) = some (h, .inr (5, [.ref (ad 0), .ref (ad 1), .int (nI bn), .ref (ad 3), .ref (ad 4), .ref (ad 5), .ref (ad 6), .ref (ad 7), .ref (ad 8), .ref (ad 9), .ref (ad 10), .int (nI rn), .ref (ad 12), .ref (ad 13), .ref (ad 14), .ref (ad 15), .ref (ad 16), .ref (ad 17), .ref (ad 18), .ref (ad 19), .ref (ad 20), .ref (ad 21), .int (nI nn), .int (nI m1 - 1)])) from hM10.1) rfl 22 (by decide) (hts _ k_465) (fun _ h9 => h9) rfl d_MM_note_49 ?_
  refine lv_iconst (v := 1) hx hb d_MM_note_52 (by decide) ?_
  refine lv_iadd hx hb d_MM_note_53 ?_
  rw [nI_1 _]
  refine g_put (ty := .int) (v := .int (nI (nn + 1))) hx hb hts i_MM t_MM t_MM_ok n_MM hown hK.1 hP hS (show A9 (20, 0) = some (h, .inr (5, [.ref (ad 0), .ref (ad 1), .int (nI bn), .ref (ad 3), .ref (ad 4), .ref (ad 5), .ref (ad 6), .ref (ad 7), .ref (ad 8), .ref (ad 9), .ref (ad 10), .int (nI rn), .ref (ad 12), .ref (ad 13), .ref (ad 14), .ref (ad 15), .ref (ad 16), .ref (ad 17), .ref (ad 18), .ref (ad 19), .ref (ad 20), .ref (ad 21), .int (nI nn), .int (nI m1 - 1)])) from hM10.1) rfl 22 (by decide) (hts _ k_465) (fun _ h9 => h9) rfl (by decide +kernel) rfl rfl (Nat.le_of_ble_eq_true rfl) d_MM_note_54 (fun H locs hP hS => ?_)
  obtain ⟨A11, eA11⟩ : ∃ z, z = gU A9 (20, 0) (h, .inr (5, [.ref (ad 0), .ref (ad 1), .int (nI bn), .ref (ad 3), .ref (ad 4), .ref (ad 5), .ref (ad 6), .ref (ad 7), .ref (ad 8), .ref (ad 9), .ref (ad 10), .int (nI rn), .ref (ad 12), .ref (ad 13), .ref (ad 14), .ref (ad 15), .ref (ad 16), .ref (ad 17), .ref (ad 18), .ref (ad 19), .ref (ad 20), .ref (ad 21), .int (nI (nn + 1)), .int (nI m1 - 1)])) := ⟨_, rfl⟩
  replace hP : gP D classes b A11 H := by rw [eA11]; exact hP
  have hM12 : rMM cI cZ cL A11 h ad (va_up (va_up (va_up (va_up (va_up F 13 (upd (F 13) (nn) (nI mk))) 14 (upd (F 14) (nn) (nI mt))) 16 (upd (F 16) (nn) (nI dp))) 17 (upd (F 17) (nn) (fr))) 20 (upd (F 20) (nn) (1))) G bn rn (nn + 1) m1 := by rw [eA11]; exact hM10.obj
  have glA11 : gL A A11 := by rw [eA11]; exact glA9.U (by decide)
  refine lv_aload_n hx hb d_MM_note_57 rfl (lv_at hl 1 rfl) ?_
  refine g_get hx hb hts i_MM hown hK.1 hP (show A11 (20, 0) = some (h, .inr (5, [.ref (ad 0), .ref (ad 1), .int (nI bn), .ref (ad 3), .ref (ad 4), .ref (ad 5), .ref (ad 6), .ref (ad 7), .ref (ad 8), .ref (ad 9), .ref (ad 10), .int (nI rn), .ref (ad 12), .ref (ad 13), .ref (ad 14), .ref (ad 15), .ref (ad 16), .ref (ad 17), .ref (ad 18), .ref (ad 19), .ref (ad 20), .ref (ad 21), .int (nI (nn + 1)), .int (nI m1 - 1)])) from hM12.1) rfl 18 (by decide) (hts _ k_461) (fun _ h9 => h9) rfl d_MM_note_58 ?_
  refine lv_iload hx hb d_MM_note_61 (lv_at hl 0 rfl) ?_
  refine lv_iconst (v := (-1)) hx hb d_MM_note_63 (by decide) ?_
  refine g_iast (k := nn) hx hb hK.1 hP hS 0 (show A11 (39, 0) = some (ad 18, .inl (cI, 160, .inl (F 18))) from hM12.2.1 18 rfl) rfl (vp_in_nI (show nn < 160 by omega) (by omega)) (nI_clamp (show nn < 2 ^ 31 by omega)) d_MM_note_64 (fun H locs hP hS => ?_)
  obtain ⟨A13, eA13⟩ : ∃ z, z = gU A11 (39, 0) (ad 18, .inl (cI, 160, .inl (upd (F 18) (nn) (-1)))) := ⟨_, rfl⟩
  replace hP : gP D classes b A13 H := by rw [eA13]; exact hP
  have hM14 : rMM cI cZ cL A13 h ad (va_up (va_up (va_up (va_up (va_up (va_up F 13 (upd (F 13) (nn) (nI mk))) 14 (upd (F 14) (nn) (nI mt))) 16 (upd (F 16) (nn) (nI dp))) 17 (upd (F 17) (nn) (fr))) 20 (upd (F 20) (nn) (1))) 18 (upd (F 18) (nn) (-1))) G bn rn (nn + 1) m1 := by rw [eA13]; exact hM12.put 18 rfl _
  have glA13 : gL A A13 := by rw [eA13]; exact glA11.U (by decide)
  refine lv_iload hx hb d_MM_note_65 (lv_at hl 0 rfl) ?_
  refine W.widen (k := 0) (n := 0) (by decide) (by decide) ?_
  exact W.iret hx hb hr (fun t ht _ => ⟨⟨_, A13, rfl, ⟨rfl, hM14, glA13⟩, show gP D classes b A13 t.heap by rw [ht]; exact hP⟩, hS.F ht⟩) hS.2.2 d_MM_note_67
set_option maxHeartbeats 4000000 in
set_option maxRecDepth 100000 in
theorem c_MM_action (l : Launch) {D : va_G} {cI cZ cO cL : ClassId} {b e0 : Nat} {rs : List Ru} {A : gW} {h : Nat} {ad : Nat → Nat} {F : Nat → Nat → Int32} {G : Nat → Int64} {bn nn m1 : Nat} (hM : rMM cI cZ cL A h ad F G bn rs.length nn m1) (hru : ∀ r, r < rs.length → mRu F r (rs.getD r u0)) (hwr : ∀ r, r < rs.length → wfR (rs.getD r u0)) (hl24 : rs.length ≤ 24) {i : Nat} (hi160 : i < 160) {a : Nat → Nat} (ha : ∀ k, a k ≤ 1000) (hu : ∀ k, k < i → F 18 k = nI (a k) - 1) (hus : ∀ r, r < rs.length → uUs (rs.getD r u0) = cnt (fun k => decide (a k = r + 1)) i) {mk mt : Nat} {x : X3} (b1 : mk < 4) (e13 : F 13 i = nI mk) (e15 : ∀ j, j < 3 → F 15 (3 * i + j) = argP x (nI j)) (b2 : mt < 8) (e14 : F 14 i = nI mt) (h18 : F 18 i = -1) : Met l y_MM_action (Cond.code y_MM_action b_MM_action 4 (some .int) :: TT) ({ frames := 2, cells := 0, slots := 0, locals := 45 }) (va_Pc [.ref h, .int (nI i)] (gI D [(cI, .int), (cZ, .boolean), (cO, .object "java/lang/Object"), (cL, .long)] b e0 A)) (va_Qi (fun (z : Int32) (A2 : gW) => z = actN rs (ruFor rs mk mt x) ∧ rMM cI cZ cL A2 h ad (va_up F 18 (upd (F 18) i (nI (ruFor rs mk mt x) - 1))) G bn rs.length nn m1 ∧ gL A A2) (fun A2 t => gP D classes b A2 t.heap) (fun q => b ≤ q)) 0 0 (fun q => b ≤ q) := by
  refine Met.ofG (own := R_MM) (by decide +kernel) rfl (Nat.le_of_ble_eq_true rfl) ?_
  intro p e s m below meth c ls hx hb hr hlk hml hown hnm hts hI hl
  have hl : lv_has ls 4 [(0, .ref h), (1, .int (nI i))] := hl
  have hS : gS b s.heap s.heap [] := va_S.rf
  obtain ⟨hP, hK⟩ := hI
  refine lv_iconst (v := 0) hx hb d_MM_action_0 (by decide) ?_
  refine lv_istore_n (lv' := [(2, .int 0), (0, .ref h), (1, .int (nI i))]) hx hb d_MM_action_1 rfl hl (by decide) rfl (fun ls hl => ?_)
  obtain ⟨q, hq0⟩ : ∃ z : Nat, z = 0 := ⟨_, rfl⟩
  obtain ⟨B, hB0⟩ : ∃ z : gW, z = A := ⟨_, rfl⟩
  obtain ⟨H, hH0⟩ : ∃ z : Heap, z = s.heap := ⟨_, rfl⟩
  obtain ⟨lo, hlo0⟩ : ∃ z : List Loc, z = [] := ⟨_, rfl⟩
  obtain ⟨n, hn⟩ : ∃ z : Nat, q + z = rs.length := ⟨rs.length - q, by omega⟩
  replace hl : lv_has ls 4 [(2, .int (nI q)), (0, .ref h), (1, .int (nI i))] := by rw [hq0, nI_0]; exact hl
  replace hP : gP D classes b B H := by rw [hB0, hH0]; exact hP
  replace hS : gS b s.heap H lo := by rw [hH0, hlo0]; exact hS
  have hMi : rMM cI cZ cL B h ad (va_up F 18 (upd (F 18) i (nI (lst (fun i => uAns (rs.getD i u0) mk mt x) q) - 1))) G bn rs.length nn m1 := by rw [hB0, hq0, up_self F 18 i (v := nI (lst (fun i => uAns (rs.getD i u0) mk mt x) 0) - 1) (h18.trans (show (-1 : Int32) = nI 0 - 1 by decide))]; exact hM
  have gli : gL A B := by rw [hB0]; exact gL.rf
  rw [← hH0, ← hlo0]
  clear hq0 hB0 hH0 hlo0
  induction n generalizing q B H lo ls with
  | zero =>
    refine lv_iload_n hx hb d_MM_action_2 rfl (lv_at hl 0 rfl) ?_
    refine lv_aload_n hx hb d_MM_action_3 rfl (lv_at hl 1 rfl) ?_
    refine g_get hx hb hts i_MM hown hK.1 hP (show B (20, 0) = some (h, .inr (5, [.ref (ad 0), .ref (ad 1), .int (nI bn), .ref (ad 3), .ref (ad 4), .ref (ad 5), .ref (ad 6), .ref (ad 7), .ref (ad 8), .ref (ad 9), .ref (ad 10), .int (nI rs.length), .ref (ad 12), .ref (ad 13), .ref (ad 14), .ref (ad 15), .ref (ad 16), .ref (ad 17), .ref (ad 18), .ref (ad 19), .ref (ad 20), .ref (ad 21), .int (nI nn), .int (nI m1 - 1)])) from hMi.1) rfl 11 (by decide) (hts _ k_454) (fun _ h9 => h9) rfl d_MM_action_4 ?_
    refine lv_icmp_ge (tgt := 32) hx hb d_MM_action_7 (by decide) (fun _ => ?_) (fun h9 => absurd (nI_le (show rs.length ≤ q by omega) (by omega)) h9)
    obtain ⟨r1, hr1⟩ : ∃ z : Nat, z = ruFor rs mk mt x := ⟨_, rfl⟩
    have hr2 : lst (fun i => uAns (rs.getD i u0) mk mt x) q = r1 := by rw [hr1, show q = rs.length by omega]; rfl
    have hr3 : r1 ≤ rs.length := by rw [hr1]; exact ruFor_le _ _ _ _
    rw [hr2] at hMi
    refine lv_aload_n hx hb d_MM_action_32 rfl (lv_at hl 1 rfl) ?_
    refine g_get hx hb hts i_MM hown hK.1 hP (show B (20, 0) = some (h, .inr (5, [.ref (ad 0), .ref (ad 1), .int (nI bn), .ref (ad 3), .ref (ad 4), .ref (ad 5), .ref (ad 6), .ref (ad 7), .ref (ad 8), .ref (ad 9), .ref (ad 10), .int (nI rs.length), .ref (ad 12), .ref (ad 13), .ref (ad 14), .ref (ad 15), .ref (ad 16), .ref (ad 17), .ref (ad 18), .ref (ad 19), .ref (ad 20), .ref (ad 21), .int (nI nn), .int (nI m1 - 1)])) from hMi.1) rfl 18 (by decide) (hts _ k_461) (fun _ h9 => h9) rfl d_MM_action_33 ?_
    refine lv_iload_n hx hb d_MM_action_36 rfl (lv_at hl 2 rfl) ?_
    refine g_iald (v := nI r1 - 1) hx hb hK.1 hP 0 (show B (39, 0) = some (ad 18, .inl (cI, 160, .inl (upd (F 18) i (nI r1 - 1)))) from hMi.2.1 18 rfl) rfl (vp_in_nI (show i < 160 by omega) (by omega)) (by rw [(nI_clamp (show i < 2 ^ 31 by omega))]; exact pk_us) d_MM_action_37 ?_
    cases r1 with
    | zero =>
      refine lv_istore_n (lv' := [(2, .int (nI 0 - 1)), (0, .ref h), (1, .int (nI i))]) hx hb d_MM_action_38 rfl hl (by decide) rfl (fun ls hl => ?_)
      refine lv_iload_n hx hb d_MM_action_39 rfl (lv_at hl 0 rfl) ?_
      refine lv_if_lt (tgt := 52) hx hb d_MM_action_40 (by decide) (fun _ => ?_) (fun h9 => absurd (by decide : nI 0 - 1 < 0) h9)
      refine lv_iconst (v := (-1)) hx hb d_MM_action_52 (by decide) ?_
      refine W.widen (k := 0) (n := 0) (by decide) (by decide) ?_
      exact W.iret hx hb hr (fun t ht _ => ⟨⟨_, B, rfl, ⟨(by rw [← hr1]; rfl), by rw [← hr1]; exact hMi, gli⟩, show gP D classes b B t.heap by rw [ht]; exact hP⟩, hS.F ht⟩) hS.2.2 d_MM_action_53
    | succ rr =>
      rw [nI_pred]
      obtain ⟨bz1, bz2, bz3, bz4, bz5, -⟩ := hwr rr (by omega)
      refine lv_istore_n (lv' := [(2, .int (nI rr)), (0, .ref h), (1, .int (nI i))]) hx hb d_MM_action_38 rfl hl (by decide) rfl (fun ls hl => ?_)
      refine lv_iload_n hx hb d_MM_action_39 rfl (lv_at hl 0 rfl) ?_
      refine lv_if_lt (tgt := 52) hx hb d_MM_action_40 (by decide) (fun h9 => absurd h9 (nI_pos (show rr < 2 ^ 31 by omega))) (fun _ => ?_)
      refine lv_aload_n hx hb d_MM_action_43 rfl (lv_at hl 1 rfl) ?_
      refine g_get hx hb hts i_MM hown hK.1 hP (show B (20, 0) = some (h, .inr (5, [.ref (ad 0), .ref (ad 1), .int (nI bn), .ref (ad 3), .ref (ad 4), .ref (ad 5), .ref (ad 6), .ref (ad 7), .ref (ad 8), .ref (ad 9), .ref (ad 10), .int (nI rs.length), .ref (ad 12), .ref (ad 13), .ref (ad 14), .ref (ad 15), .ref (ad 16), .ref (ad 17), .ref (ad 18), .ref (ad 19), .ref (ad 20), .ref (ad 21), .int (nI nn), .int (nI m1 - 1)])) from hMi.1) rfl 10 (by decide) (hts _ k_453) (fun _ h9 => h9) rfl d_MM_action_44 ?_
      refine lv_iload_n hx hb d_MM_action_47 rfl (lv_at hl 0 rfl) ?_
      refine g_iald (v := nI (uAc (rs.getD rr u0)).length) hx hb hK.1 hP 0 (show B (31, 0) = some (ad 10, .inl (cI, 24, .inl (F 10))) from hMi.2.1 10 rfl) rfl (vp_in_nI (show rr < 24 by omega) (by omega)) (by rw [(nI_clamp (show rr < 2 ^ 31 by omega))]; exact (hru rr (by omega)).2.2.2.1) d_MM_action_48 ?_
      refine lv_if_ne (tgt := 54) hx hb d_MM_action_49 (by decide) (fun c4 => ?_) (fun c4 => ?_)
      · skip
        replace c4 : ¬ (uAc (rs.getD rr u0)).length = 0 := fun q => c4 ((nI_eq (a := (uAc (rs.getD rr u0)).length) (b := 0) (by omega) (by decide)).mpr q)
        refine lv_aload_n hx hb d_MM_action_54 rfl (lv_at hl 1 rfl) ?_
        refine lv_iload_n hx hb d_MM_action_55 rfl (lv_at hl 0 rfl) ?_
        refine lv_iload_n hx hb d_MM_action_56 rfl (lv_at hl 2 rfl) ?_
        refine g_ri (g_runV (As := [.int (nI rr), .int (nI i)]) (rest := []) ⟨hx, hb, hml, hown, hts⟩ (c_MM_uses l hMi (a := a) ha (n0 := i) (r := rr) (by omega) (by omega) (fun k hk => (pk_un (Nat.ne_of_lt hk)).trans (hu k hk))) st_MM_uses k_560 ⟨rfl, rfl, by decide, by decide⟩ rfl (gI.preV hK hS hP (show B (20, 0) = some (h, .inr (5, [.ref (ad 0), .ref (ad 1), .int (nI bn), .ref (ad 3), .ref (ad 4), .ref (ad 5), .ref (ad 6), .ref (ad 7), .ref (ad 8), .ref (ad 9), .ref (ad 10), .int (nI rs.length), .ref (ad 12), .ref (ad 13), .ref (ad 14), .ref (ad 15), .ref (ad 16), .ref (ad 17), .ref (ad 18), .ref (ad 19), .ref (ad 20), .ref (ad 21), .int (nI nn), .int (nI m1 - 1)])) from hMi.1) rfl _) rfl hl.1 rfl (Nat.le_of_ble_eq_true rfl) d_MM_action_57 ⟨by decide, by decide⟩) (fun r5 hr5 => ?_)
        subst hr5
        rw [← hus rr (by omega)]
        refine lv_istore_n (lv' := [(3, .int (nI (uUs (rs.getD rr u0)))), (2, .int (nI rr)), (0, .ref h), (1, .int (nI i))]) hx hb d_MM_action_60 rfl hl (by decide) rfl (fun ls hl => ?_)
        refine lv_iconst (v := 4) hx hb d_MM_action_61 (by decide) ?_
        refine lv_iload_n hx hb d_MM_action_62 rfl (lv_at hl 1 rfl) ?_
        refine lv_imul hx hb d_MM_action_63 ?_
        rw [mul4 _]
        refine lv_iload_n hx hb d_MM_action_64 rfl (lv_at hl 0 rfl) ?_
        refine lv_aload_n hx hb d_MM_action_65 rfl (lv_at hl 2 rfl) ?_
        refine g_get hx hb hts i_MM hown hK.1 hP (show B (20, 0) = some (h, .inr (5, [.ref (ad 0), .ref (ad 1), .int (nI bn), .ref (ad 3), .ref (ad 4), .ref (ad 5), .ref (ad 6), .ref (ad 7), .ref (ad 8), .ref (ad 9), .ref (ad 10), .int (nI rs.length), .ref (ad 12), .ref (ad 13), .ref (ad 14), .ref (ad 15), .ref (ad 16), .ref (ad 17), .ref (ad 18), .ref (ad 19), .ref (ad 20), .ref (ad 21), .int (nI nn), .int (nI m1 - 1)])) from hMi.1) rfl 10 (by decide) (hts _ k_453) (fun _ h9 => h9) rfl d_MM_action_66 ?_
        refine lv_iload_n hx hb d_MM_action_69 rfl (lv_at hl 1 rfl) ?_
        refine g_iald (v := nI (uAc (rs.getD rr u0)).length) hx hb hK.1 hP 0 (show B (31, 0) = some (ad 10, .inl (cI, 24, .inl (F 10))) from hMi.2.1 10 rfl) rfl (vp_in_nI (show rr < 24 by omega) (by omega)) (by rw [(nI_clamp (show rr < 2 ^ 31 by omega))]; exact (hru rr (by omega)).2.2.2.1) d_MM_action_70 ?_
        refine lv_icmp_ge (tgt := 78) hx hb d_MM_action_71 (by decide) (fun c6 => ?_) (fun c6 => ?_)
        · skip
          replace c6 : (uAc (rs.getD rr u0)).length ≤ uUs (rs.getD rr u0) := (nI_leI (a := (uAc (rs.getD rr u0)).length) (b := uUs (rs.getD rr u0)) (by omega) (by omega)).mp c6
          refine lv_aload_n hx hb d_MM_action_78 rfl (lv_at hl 2 rfl) ?_
          refine g_get hx hb hts i_MM hown hK.1 hP (show B (20, 0) = some (h, .inr (5, [.ref (ad 0), .ref (ad 1), .int (nI bn), .ref (ad 3), .ref (ad 4), .ref (ad 5), .ref (ad 6), .ref (ad 7), .ref (ad 8), .ref (ad 9), .ref (ad 10), .int (nI rs.length), .ref (ad 12), .ref (ad 13), .ref (ad 14), .ref (ad 15), .ref (ad 16), .ref (ad 17), .ref (ad 18), .ref (ad 19), .ref (ad 20), .ref (ad 21), .int (nI nn), .int (nI m1 - 1)])) from hMi.1) rfl 10 (by decide) (hts _ k_453) (fun _ h9 => h9) rfl d_MM_action_79 ?_
          refine lv_iload_n hx hb d_MM_action_82 rfl (lv_at hl 1 rfl) ?_
          refine g_iald (v := nI (uAc (rs.getD rr u0)).length) hx hb hK.1 hP 0 (show B (31, 0) = some (ad 10, .inl (cI, 24, .inl (F 10))) from hMi.2.1 10 rfl) rfl (vp_in_nI (show rr < 24 by omega) (by omega)) (by rw [(nI_clamp (show rr < 2 ^ 31 by omega))]; exact (hru rr (by omega)).2.2.2.1) d_MM_action_83 ?_
          refine lv_iconst (v := 1) hx hb d_MM_action_84 (by decide) ?_
          refine lv_isub hx hb d_MM_action_85 ?_
          rw [show nI (uAc (rs.getD rr u0)).length - 1 = nI ((uAc (rs.getD rr u0)).length - 1) from pk_sub (a := (uAc (rs.getD rr u0)).length) (b := 1) (by omega)]
          refine lv_iadd hx hb d_MM_action_86 ?_
          rw [nI_add _ _]
          refine W.widen (k := 0) (n := 0) (by decide) (by decide) ?_
          exact W.iret hx hb hr (fun t ht _ => ⟨⟨_, B, rfl, ⟨(by rw [← hr1, actN_p (by omega)]; congr 1; omega), by rw [← hr1]; exact hMi, gli⟩, show gP D classes b B t.heap by rw [ht]; exact hP⟩, hS.F ht⟩) hS.2.2 d_MM_action_87
        · skip
          replace c6 : ¬ (uAc (rs.getD rr u0)).length ≤ uUs (rs.getD rr u0) := fun q => c6 ((nI_leI (a := (uAc (rs.getD rr u0)).length) (b := uUs (rs.getD rr u0)) (by omega) (by omega)).mpr q)
          refine lv_iload_n hx hb d_MM_action_74 rfl (lv_at hl 0 rfl) ?_
          refine lv_goto (tgt := 86) hx hb d_MM_action_75 (by decide) ?_
          refine lv_iadd hx hb d_MM_action_86 ?_
          rw [nI_add _ _]
          refine W.widen (k := 0) (n := 0) (by decide) (by decide) ?_
          exact W.iret hx hb hr (fun t ht _ => ⟨⟨_, B, rfl, ⟨(by rw [← hr1, actN_p (by omega)]; congr 1; omega), by rw [← hr1]; exact hMi, gli⟩, show gP D classes b B t.heap by rw [ht]; exact hP⟩, hS.F ht⟩) hS.2.2 d_MM_action_87
      · skip
        replace c4 : (uAc (rs.getD rr u0)).length = 0 := (nI_eq (a := (uAc (rs.getD rr u0)).length) (b := 0) (by omega) (by decide)).mp c4
        refine lv_iconst (v := (-1)) hx hb d_MM_action_52 (by decide) ?_
        refine W.widen (k := 0) (n := 0) (by decide) (by decide) ?_
        exact W.iret hx hb hr (fun t ht _ => ⟨⟨_, B, rfl, ⟨(by rw [← hr1, actN_e (by omega)]), by rw [← hr1]; exact hMi, gli⟩, show gP D classes b B t.heap by rw [ht]; exact hP⟩, hS.F ht⟩) hS.2.2 d_MM_action_53
  | succ n ih =>
    refine lv_iload_n hx hb d_MM_action_2 rfl (lv_at hl 0 rfl) ?_
    refine lv_aload_n hx hb d_MM_action_3 rfl (lv_at hl 1 rfl) ?_
    refine g_get hx hb hts i_MM hown hK.1 hP (show B (20, 0) = some (h, .inr (5, [.ref (ad 0), .ref (ad 1), .int (nI bn), .ref (ad 3), .ref (ad 4), .ref (ad 5), .ref (ad 6), .ref (ad 7), .ref (ad 8), .ref (ad 9), .ref (ad 10), .int (nI rs.length), .ref (ad 12), .ref (ad 13), .ref (ad 14), .ref (ad 15), .ref (ad 16), .ref (ad 17), .ref (ad 18), .ref (ad 19), .ref (ad 20), .ref (ad 21), .int (nI nn), .int (nI m1 - 1)])) from hMi.1) rfl 11 (by decide) (hts _ k_454) (fun _ h9 => h9) rfl d_MM_action_4 ?_
    refine lv_icmp_ge (tgt := 32) hx hb d_MM_action_7 (by decide) (fun h9 => absurd h9 (nI_ge (show q < rs.length by omega) (by omega))) (fun _ => ?_)
    refine lv_aload_n hx hb d_MM_action_10 rfl (lv_at hl 1 rfl) ?_
    refine lv_iload_n hx hb d_MM_action_11 rfl (lv_at hl 0 rfl) ?_
    refine lv_iload_n hx hb d_MM_action_12 rfl (lv_at hl 2 rfl) ?_
    refine g_ri (g_runV (As := [.int (nI q), .int (nI i)]) (rest := []) ⟨hx, hb, hml, hown, hts⟩ (c_MM_ruleFits l hMi (r := q) (show q < 24 by omega) hi160 (hru q (by omega)) (hwr q (by omega)) b1 b2 e13 e14 e15) st_MM_ruleFits k_553 ⟨rfl, rfl, by decide, by decide⟩ rfl (gI.preV hK hS hP (show B (20, 0) = some (h, .inr (5, [.ref (ad 0), .ref (ad 1), .int (nI bn), .ref (ad 3), .ref (ad 4), .ref (ad 5), .ref (ad 6), .ref (ad 7), .ref (ad 8), .ref (ad 9), .ref (ad 10), .int (nI rs.length), .ref (ad 12), .ref (ad 13), .ref (ad 14), .ref (ad 15), .ref (ad 16), .ref (ad 17), .ref (ad 18), .ref (ad 19), .ref (ad 20), .ref (ad 21), .int (nI nn), .int (nI m1 - 1)])) from hMi.1) rfl _) rfl hl.1 rfl (Nat.le_of_ble_eq_true rfl) d_MM_action_13 ⟨by decide, by decide⟩) (fun r8 hr8 => ?_)
    subst hr8
    refine lv_if_eq (tgt := 26) hx hb d_MM_action_16 (by decide) (fun c9 => ?_) (fun c9 => ?_)
    · skip
      rw [bI_0] at c9
      refine lv_iinc (v := nI (q + 1)) (lv' := [(2, .int (nI (q + 1))), (0, .ref h), (1, .int (nI i))]) hx hb d_MM_action_26 hl (k := 0) rfl (nI_1 _) (by decide) rfl (fun ls hl => ?_)
      refine lv_goto (tgt := 2) hx hb d_MM_action_29 (by decide) ?_
      exact ih _ _ _ _ _ (by omega) (lv_sub hl [0, 1, 2] rfl) hP hS (by rw [show lst (fun i => uAns (rs.getD i u0) mk mt x) (q + 1) = lst (fun i => uAns (rs.getD i u0) mk mt x) q by simp_all [lst]]; exact hMi) gli
    · skip
      rw [bI_0] at c9
      refine lv_aload_n hx hb d_MM_action_19 rfl (lv_at hl 1 rfl) ?_
      refine g_get hx hb hts i_MM hown hK.1 hP (show B (20, 0) = some (h, .inr (5, [.ref (ad 0), .ref (ad 1), .int (nI bn), .ref (ad 3), .ref (ad 4), .ref (ad 5), .ref (ad 6), .ref (ad 7), .ref (ad 8), .ref (ad 9), .ref (ad 10), .int (nI rs.length), .ref (ad 12), .ref (ad 13), .ref (ad 14), .ref (ad 15), .ref (ad 16), .ref (ad 17), .ref (ad 18), .ref (ad 19), .ref (ad 20), .ref (ad 21), .int (nI nn), .int (nI m1 - 1)])) from hMi.1) rfl 18 (by decide) (hts _ k_461) (fun _ h9 => h9) rfl d_MM_action_20 ?_
      refine lv_iload_n hx hb d_MM_action_23 rfl (lv_at hl 2 rfl) ?_
      refine lv_iload_n hx hb d_MM_action_24 rfl (lv_at hl 0 rfl) ?_
      refine g_iast (k := i) hx hb hK.1 hP hS 0 (show B (39, 0) = some (ad 18, .inl (cI, 160, .inl (upd (F 18) i (nI (lst (fun i => uAns (rs.getD i u0) mk mt x) q) - 1)))) from hMi.2.1 18 rfl) rfl (vp_in_nI (show i < 160 by omega) (by omega)) (nI_clamp (show i < 2 ^ 31 by omega)) d_MM_action_25 (fun H locs hP hS => ?_)
      obtain ⟨A10, eA10⟩ : ∃ z, z = gU B (39, 0) (ad 18, .inl (cI, 160, .inl (upd (upd (F 18) i (nI (lst (fun i => uAns (rs.getD i u0) mk mt x) q) - 1)) (i) (nI q)))) := ⟨_, rfl⟩
      replace hP : gP D classes b A10 H := by rw [eA10]; exact hP
      have hM11 : rMM cI cZ cL A10 h ad (va_up (va_up F 18 (upd (F 18) i (nI (lst (fun i => uAns (rs.getD i u0) mk mt x) q) - 1))) 18 (upd (upd (F 18) i (nI (lst (fun i => uAns (rs.getD i u0) mk mt x) q) - 1)) (i) (nI q))) G bn rs.length nn m1 := by rw [eA10]; exact hMi.put 18 rfl _
      have glA10 : gL A A10 := by rw [eA10]; exact gli.U (by decide)
      refine lv_iinc (v := nI (q + 1)) (lv' := [(2, .int (nI (q + 1))), (0, .ref h), (1, .int (nI i))]) hx hb d_MM_action_26 hl (k := 0) rfl (nI_1 _) (by decide) rfl (fun ls hl => ?_)
      refine lv_goto (tgt := 2) hx hb d_MM_action_29 (by decide) ?_
      exact ih _ _ _ _ _ (by omega) (lv_sub hl [0, 1, 2] rfl) hP hS (by rw [show lst (fun i => uAns (rs.getD i u0) mk mt x) (q + 1) = q + 1 by simp_all [lst], nI_pred]; have h9 := hM11; rw [va_up2, upd2] at h9; exact h9) glA10
set_option maxHeartbeats 4000000 in
set_option maxRecDepth 100000 in
theorem c_MM_plain (l : Launch) {D : va_G} {cI cZ cO cL : ClassId} {b e0 : Nat} {rs : List Ru} {A : gW} {h : Nat} {ad : Nat → Nat} {F : Nat → Nat → Int32} {G : Nat → Int64} {bn nn m1 : Nat} (hM : rMM cI cZ cL A h ad F G bn rs.length nn m1) (hru : ∀ r, r < rs.length → mRu F r (rs.getD r u0)) (hwr : ∀ r, r < rs.length → wfR (rs.getD r u0)) (hl24 : rs.length ≤ 24) {i : Nat} (hi160 : i < 160) {a : Nat → Nat} (ha : ∀ k, a k ≤ 1000) (hu : ∀ k, k < i → F 18 k = nI (a k) - 1) (hus : ∀ r, r < rs.length → uUs (rs.getD r u0) = cnt (fun k => decide (a k = r + 1)) i) {mk mt : Nat} {x : X3} (b1 : mk < 4) (e13 : F 13 i = nI mk) (e15 : ∀ j, j < 3 → F 15 (3 * i + j) = argP x (nI j)) {r1 : Nat} (hr1 : r1 ≤ rs.length) (e18 : F 18 i = nI r1 - 1) {st : Nat → Bool} (hst : ∀ j, j < 4 → F 12 j = bI (st j)) : Met l y_MM_plain (Cond.code y_MM_plain b_MM_plain 3 (some .long) :: TT) ({ frames := 1, cells := 0, slots := 0, locals := 24 }) (va_Pc [.ref h, .int (nI i), .int (actN rs r1)] (gI D [(cI, .int), (cZ, .boolean), (cO, .object "java/lang/Object"), (cL, .long)] b e0 A)) (vp_Sl (fun z => z = plainS st rs r1 mk x)) 0 0 (fun _ => False) := by
  refine Met.ofG (own := R_MM) (by decide +kernel) rfl (Nat.le_of_ble_eq_true rfl) ?_
  intro p e s m below meth c ls hx hb hr hlk hml hown hnm hts hI hl
  have hl : lv_has ls 3 [(0, .ref h), (1, .int (nI i)), (2, .int (actN rs r1))] := hl
  obtain ⟨hP, hK⟩ := hI
  cases r1 with
  | zero =>
    replace hl : lv_has ls 3 [(0, .ref h), (1, .int (nI i)), (2, .int (-1))] := by rw [← actN_0 rs]; exact hl
    refine lv_iload_n hx hb d_MM_plain_0 rfl (lv_at hl 2 rfl) ?_
    refine lv_if_ge (tgt := 35) hx hb d_MM_plain_1 (by decide) (fun h9 => absurd h9 (by decide)) (fun _ => ?_)
    refine lv_aload_n hx hb d_MM_plain_4 rfl (lv_at hl 0 rfl) ?_
    refine g_get hx hb hts i_MM hown hK.1 hP (show A (20, 0) = some (h, .inr (5, [.ref (ad 0), .ref (ad 1), .int (nI bn), .ref (ad 3), .ref (ad 4), .ref (ad 5), .ref (ad 6), .ref (ad 7), .ref (ad 8), .ref (ad 9), .ref (ad 10), .int (nI rs.length), .ref (ad 12), .ref (ad 13), .ref (ad 14), .ref (ad 15), .ref (ad 16), .ref (ad 17), .ref (ad 18), .ref (ad 19), .ref (ad 20), .ref (ad 21), .int (nI nn), .int (nI m1 - 1)])) from hM.1) rfl 18 (by decide) (hts _ k_461) (fun _ h9 => h9) rfl d_MM_plain_5 ?_
    refine lv_iload_n hx hb d_MM_plain_8 rfl (lv_at hl 1 rfl) ?_
    refine g_iald (v := nI 0 - 1) hx hb hK.1 hP 0 (show A (39, 0) = some (ad 18, .inl (cI, 160, .inl (F 18))) from hM.2.1 18 rfl) rfl (vp_in_nI (show i < 160 by omega) (by omega)) (by rw [(nI_clamp (show i < 2 ^ 31 by omega))]; exact e18) d_MM_plain_9 ?_
    refine lv_if_ge (tgt := 33) hx hb d_MM_plain_10 (by decide) (fun h9 => absurd h9 (by decide)) (fun _ => ?_)
    refine lv_aload_n hx hb d_MM_plain_13 rfl (lv_at hl 0 rfl) ?_
    refine g_get hx hb hts i_MM hown hK.1 hP (show A (20, 0) = some (h, .inr (5, [.ref (ad 0), .ref (ad 1), .int (nI bn), .ref (ad 3), .ref (ad 4), .ref (ad 5), .ref (ad 6), .ref (ad 7), .ref (ad 8), .ref (ad 9), .ref (ad 10), .int (nI rs.length), .ref (ad 12), .ref (ad 13), .ref (ad 14), .ref (ad 15), .ref (ad 16), .ref (ad 17), .ref (ad 18), .ref (ad 19), .ref (ad 20), .ref (ad 21), .int (nI nn), .int (nI m1 - 1)])) from hM.1) rfl 12 (by decide) (hts _ k_455) (fun _ h9 => h9) rfl d_MM_plain_14 ?_
    refine lv_aload_n hx hb d_MM_plain_17 rfl (lv_at hl 0 rfl) ?_
    refine g_get hx hb hts i_MM hown hK.1 hP (show A (20, 0) = some (h, .inr (5, [.ref (ad 0), .ref (ad 1), .int (nI bn), .ref (ad 3), .ref (ad 4), .ref (ad 5), .ref (ad 6), .ref (ad 7), .ref (ad 8), .ref (ad 9), .ref (ad 10), .int (nI rs.length), .ref (ad 12), .ref (ad 13), .ref (ad 14), .ref (ad 15), .ref (ad 16), .ref (ad 17), .ref (ad 18), .ref (ad 19), .ref (ad 20), .ref (ad 21), .int (nI nn), .int (nI m1 - 1)])) from hM.1) rfl 13 (by decide) (hts _ k_456) (fun _ h9 => h9) rfl d_MM_plain_18 ?_
    refine lv_iload_n hx hb d_MM_plain_21 rfl (lv_at hl 1 rfl) ?_
    refine g_iald (v := nI mk) hx hb hK.1 hP 0 (show A (34, 0) = some (ad 13, .inl (cI, 160, .inl (F 13))) from hM.2.1 13 rfl) rfl (vp_in_nI (show i < 160 by omega) (by omega)) (by rw [(nI_clamp (show i < 2 ^ 31 by omega))]; exact e13) d_MM_plain_22 ?_
    refine g_zald (v := bI (st mk)) hx hb hK.1 hP 1 (show A (33, 0) = some (ad 12, .inl (cZ, 4, .inl (F 12))) from hM.2.1 12 rfl) rfl (vp_in_nI (show mk < 4 by omega) (by omega)) (by rw [(nI_clamp (show mk < 2 ^ 31 by omega))]; exact hst mk (by omega)) d_MM_plain_23 ?_
    refine lv_if_eq (tgt := 33) hx hb d_MM_plain_24 (by decide) (fun c3 => ?_) (fun c3 => ?_)
    · skip
      rw [bI_0] at c3
      refine lv_lconst (v := 0) hx hb d_MM_plain_33 (by decide) ?_
      exact W.lret hx hb hr (fun t ht _ => ⟨_, rfl, (by rw [plainS_0]; simp_all [xUNEX]), ht⟩) (fun _ h => nomatch h) d_MM_plain_34
    · skip
      rw [bI_0] at c3
      refine lv_ldc2 (v := 20000000000) hx hb hown (hts _ k_568) d_MM_plain_27 ?_
      refine lv_goto (tgt := 34) hx hb d_MM_plain_30 (by decide) ?_
      exact W.lret hx hb hr (fun t ht _ => ⟨_, rfl, (by rw [plainS_0]; simp_all [xUNEX]), ht⟩) (fun _ h => nomatch h) d_MM_plain_34
  | succ rr =>
    obtain ⟨bz1, bz2, bz3, bz4, bz5, bz6, bz7⟩ := hwr rr (by omega)
    by_cases hL : (uAc (rs.getD rr u0)).length = 0
    · skip
      replace hl : lv_has ls 3 [(0, .ref h), (1, .int (nI i)), (2, .int (-1))] := by rw [← actN_e hL]; exact hl
      refine lv_iload_n hx hb d_MM_plain_0 rfl (lv_at hl 2 rfl) ?_
      refine lv_if_ge (tgt := 35) hx hb d_MM_plain_1 (by decide) (fun h9 => absurd h9 (by decide)) (fun _ => ?_)
      refine lv_aload_n hx hb d_MM_plain_4 rfl (lv_at hl 0 rfl) ?_
      refine g_get hx hb hts i_MM hown hK.1 hP (show A (20, 0) = some (h, .inr (5, [.ref (ad 0), .ref (ad 1), .int (nI bn), .ref (ad 3), .ref (ad 4), .ref (ad 5), .ref (ad 6), .ref (ad 7), .ref (ad 8), .ref (ad 9), .ref (ad 10), .int (nI rs.length), .ref (ad 12), .ref (ad 13), .ref (ad 14), .ref (ad 15), .ref (ad 16), .ref (ad 17), .ref (ad 18), .ref (ad 19), .ref (ad 20), .ref (ad 21), .int (nI nn), .int (nI m1 - 1)])) from hM.1) rfl 18 (by decide) (hts _ k_461) (fun _ h9 => h9) rfl d_MM_plain_5 ?_
      refine lv_iload_n hx hb d_MM_plain_8 rfl (lv_at hl 1 rfl) ?_
      refine g_iald (v := nI (rr + 1) - 1) hx hb hK.1 hP 0 (show A (39, 0) = some (ad 18, .inl (cI, 160, .inl (F 18))) from hM.2.1 18 rfl) rfl (vp_in_nI (show i < 160 by omega) (by omega)) (by rw [(nI_clamp (show i < 2 ^ 31 by omega))]; exact e18) d_MM_plain_9 ?_
      refine lv_if_ge (tgt := 33) hx hb d_MM_plain_10 (by decide) (fun _ => ?_) (fun h9 => absurd (by rw [nI_pred]; exact nI_pos' (show rr < 2 ^ 31 by omega)) h9)
      refine lv_lconst (v := 0) hx hb d_MM_plain_33 (by decide) ?_
      exact W.lret hx hb hr (fun t ht _ => ⟨_, rfl, (by rw [plainS_e hL]), ht⟩) (fun _ h => nomatch h) d_MM_plain_34
    · skip
      obtain ⟨pz, hpz⟩ : ∃ z : Nat, z = 4 * rr + min (uUs (rs.getD rr u0)) ((uAc (rs.getD rr u0)).length - 1) := ⟨_, rfl⟩
      have hpa := (actN_p hL).trans (congrArg nI hpz.symm)
      replace hl : lv_has ls 3 [(0, .ref h), (1, .int (nI i)), (2, .int (nI pz))] := by rw [← hpa]; exact hl
      have hac := bz6 (min (uUs (rs.getD rr u0)) ((uAc (rs.getD rr u0)).length - 1)) (by omega)
      have hk8 := (hru rr (by omega)).2.2.2.2.2 (min (uUs (rs.getD rr u0)) ((uAc (rs.getD rr u0)).length - 1)) (by omega)
      rw [← hpz] at hk8
      refine lv_iload_n hx hb d_MM_plain_0 rfl (lv_at hl 2 rfl) ?_
      refine lv_if_ge (tgt := 35) hx hb d_MM_plain_1 (by decide) (fun _ => ?_) (fun h9 => absurd (nI_pos' (show pz < 2 ^ 31 by omega)) h9)
      refine lv_aload_n hx hb d_MM_plain_35 rfl (lv_at hl 0 rfl) ?_
      refine g_get hx hb hts i_MM hown hK.1 hP (show A (20, 0) = some (h, .inr (5, [.ref (ad 0), .ref (ad 1), .int (nI bn), .ref (ad 3), .ref (ad 4), .ref (ad 5), .ref (ad 6), .ref (ad 7), .ref (ad 8), .ref (ad 9), .ref (ad 10), .int (nI rs.length), .ref (ad 12), .ref (ad 13), .ref (ad 14), .ref (ad 15), .ref (ad 16), .ref (ad 17), .ref (ad 18), .ref (ad 19), .ref (ad 20), .ref (ad 21), .int (nI nn), .int (nI m1 - 1)])) from hM.1) rfl 8 (by decide) (hts _ k_451) (fun _ h9 => h9) rfl d_MM_plain_36 ?_
      refine lv_iload_n hx hb d_MM_plain_39 rfl (lv_at hl 2 rfl) ?_
      refine g_iald (v := (uAct (rs.getD rr u0)).1) hx hb hK.1 hP 0 (show A (29, 0) = some (ad 8, .inl (cI, 96, .inl (F 8))) from hM.2.1 8 rfl) rfl (vp_in_nI (show pz < 96 by omega) (by omega)) (by rw [(nI_clamp (show pz < 2 ^ 31 by omega))]; exact hk8.1) d_MM_plain_40 ?_
      by_cases c7 : (uAct (rs.getD rr u0)).1 = 0
      · refine lv_tableIn (off := 31) (tgt := 72) hx hb d_MM_plain_41 (by rw [c7]; decide) (by rw [c7]; decide) (by rw [c7]; rfl) (by decide) ?_
        refine lv_aload_n hx hb d_MM_plain_72 rfl (lv_at hl 0 rfl) ?_
        refine g_get hx hb hts i_MM hown hK.1 hP (show A (20, 0) = some (h, .inr (5, [.ref (ad 0), .ref (ad 1), .int (nI bn), .ref (ad 3), .ref (ad 4), .ref (ad 5), .ref (ad 6), .ref (ad 7), .ref (ad 8), .ref (ad 9), .ref (ad 10), .int (nI rs.length), .ref (ad 12), .ref (ad 13), .ref (ad 14), .ref (ad 15), .ref (ad 16), .ref (ad 17), .ref (ad 18), .ref (ad 19), .ref (ad 20), .ref (ad 21), .int (nI nn), .int (nI m1 - 1)])) from hM.1) rfl 9 (by decide) (hts _ k_452) (fun _ h9 => h9) rfl d_MM_plain_73 ?_
        refine lv_iload_n hx hb d_MM_plain_76 rfl (lv_at hl 2 rfl) ?_
        refine g_iald (v := (uAct (rs.getD rr u0)).2) hx hb hK.1 hP 0 (show A (30, 0) = some (ad 9, .inl (cI, 96, .inl (F 9))) from hM.2.1 9 rfl) rfl (vp_in_nI (show pz < 96 by omega) (by omega)) (by rw [(nI_clamp (show pz < 2 ^ 31 by omega))]; exact hk8.2) d_MM_plain_77 ?_
        refine lv_i2l (v := ((uAct (rs.getD rr u0)).2).toInt64) hx hb d_MM_plain_78 rfl ?_
        exact W.lret hx hb hr (fun t ht _ => ⟨_, rfl, (by rw [plainS_p (by rw [c7]; decide)]; unfold ansA; rw [c7, if_neg (by decide), if_neg (by decide), if_neg (by decide)]), ht⟩) (fun _ h => nomatch h) d_MM_plain_79
      by_cases c8 : (uAct (rs.getD rr u0)).1 = 1
      · refine lv_tableIn (off := 39) (tgt := 80) hx hb d_MM_plain_41 (by rw [c8]; decide) (by rw [c8]; decide) (by rw [c8]; rfl) (by decide) ?_
        refine lv_aload_n hx hb d_MM_plain_80 rfl (lv_at hl 0 rfl) ?_
        refine g_get hx hb hts i_MM hown hK.1 hP (show A (20, 0) = some (h, .inr (5, [.ref (ad 0), .ref (ad 1), .int (nI bn), .ref (ad 3), .ref (ad 4), .ref (ad 5), .ref (ad 6), .ref (ad 7), .ref (ad 8), .ref (ad 9), .ref (ad 10), .int (nI rs.length), .ref (ad 12), .ref (ad 13), .ref (ad 14), .ref (ad 15), .ref (ad 16), .ref (ad 17), .ref (ad 18), .ref (ad 19), .ref (ad 20), .ref (ad 21), .int (nI nn), .int (nI m1 - 1)])) from hM.1) rfl 15 (by decide) (hts _ k_458) (fun _ h9 => h9) rfl d_MM_plain_81 ?_
        refine lv_iconst (v := 3) hx hb d_MM_plain_84 (by decide) ?_
        refine lv_iload_n hx hb d_MM_plain_85 rfl (lv_at hl 1 rfl) ?_
        refine lv_imul hx hb d_MM_plain_86 ?_
        rw [mul3 _]
        refine lv_aload_n hx hb d_MM_plain_87 rfl (lv_at hl 0 rfl) ?_
        refine g_get hx hb hts i_MM hown hK.1 hP (show A (20, 0) = some (h, .inr (5, [.ref (ad 0), .ref (ad 1), .int (nI bn), .ref (ad 3), .ref (ad 4), .ref (ad 5), .ref (ad 6), .ref (ad 7), .ref (ad 8), .ref (ad 9), .ref (ad 10), .int (nI rs.length), .ref (ad 12), .ref (ad 13), .ref (ad 14), .ref (ad 15), .ref (ad 16), .ref (ad 17), .ref (ad 18), .ref (ad 19), .ref (ad 20), .ref (ad 21), .int (nI nn), .int (nI m1 - 1)])) from hM.1) rfl 9 (by decide) (hts _ k_452) (fun _ h9 => h9) rfl d_MM_plain_88 ?_
        refine lv_iload_n hx hb d_MM_plain_91 rfl (lv_at hl 2 rfl) ?_
        refine g_iald (v := (uAct (rs.getD rr u0)).2) hx hb hK.1 hP 0 (show A (30, 0) = some (ad 9, .inl (cI, 96, .inl (F 9))) from hM.2.1 9 rfl) rfl (vp_in_nI (show pz < 96 by omega) (by omega)) (by rw [(nI_clamp (show pz < 2 ^ 31 by omega))]; exact hk8.2) d_MM_plain_92 ?_
        obtain ⟨vv, hvv, hve⟩ := hac.2.1 c8
        replace hve : (uAct (rs.getD rr u0)).2 = nI vv := hve
        rw [hve]
        refine lv_iadd hx hb d_MM_plain_93 ?_
        rw [nI_add _ _]
        refine g_iald (v := argP x (nI vv)) hx hb hK.1 hP 0 (show A (36, 0) = some (ad 15, .inl (cI, 480, .inl (F 15))) from hM.2.1 15 rfl) rfl (vp_in_nI (show 3 * i + vv < 480 by omega) (by omega)) (by rw [(nI_clamp (show 3 * i + vv < 2 ^ 31 by omega))]; exact e15 vv (by omega)) d_MM_plain_94 ?_
        refine lv_i2l (v := (argP x (nI vv)).toInt64) hx hb d_MM_plain_95 rfl ?_
        exact W.lret hx hb hr (fun t ht _ => ⟨_, rfl, (by rw [plainS_p (by rw [c8]; decide)]; unfold ansA; rw [c8, if_pos rfl, hve]), ht⟩) (fun _ h => nomatch h) d_MM_plain_96
      by_cases c9 : (uAct (rs.getD rr u0)).1 = 2
      · refine lv_tableIn (off := 56) (tgt := 97) hx hb d_MM_plain_41 (by rw [c9]; decide) (by rw [c9]; decide) (by rw [c9]; rfl) (by decide) ?_
        refine lv_aload_n hx hb d_MM_plain_97 rfl (lv_at hl 0 rfl) ?_
        refine lv_aload_n hx hb d_MM_plain_98 rfl (lv_at hl 0 rfl) ?_
        refine g_get hx hb hts i_MM hown hK.1 hP (show A (20, 0) = some (h, .inr (5, [.ref (ad 0), .ref (ad 1), .int (nI bn), .ref (ad 3), .ref (ad 4), .ref (ad 5), .ref (ad 6), .ref (ad 7), .ref (ad 8), .ref (ad 9), .ref (ad 10), .int (nI rs.length), .ref (ad 12), .ref (ad 13), .ref (ad 14), .ref (ad 15), .ref (ad 16), .ref (ad 17), .ref (ad 18), .ref (ad 19), .ref (ad 20), .ref (ad 21), .int (nI nn), .int (nI m1 - 1)])) from hM.1) rfl 18 (by decide) (hts _ k_461) (fun _ h9 => h9) rfl d_MM_plain_99 ?_
        refine lv_iload_n hx hb d_MM_plain_102 rfl (lv_at hl 1 rfl) ?_
        refine g_iald (v := nI (rr + 1) - 1) hx hb hK.1 hP 0 (show A (39, 0) = some (ad 18, .inl (cI, 160, .inl (F 18))) from hM.2.1 18 rfl) rfl (vp_in_nI (show i < 160 by omega) (by omega)) (by rw [(nI_clamp (show i < 2 ^ 31 by omega))]; exact e18) d_MM_plain_103 ?_
        rw [nI_pred]
        refine lv_iload_n hx hb d_MM_plain_104 rfl (lv_at hl 1 rfl) ?_
        refine g_ri (g_runV (As := [.int (nI rr), .int (nI i)]) (rest := []) ⟨hx, hb, hml, hown, hts⟩ (c_MM_uses l hM (a := a) ha (n0 := i) (r := rr) (by omega) (by omega) hu) st_MM_uses k_560 ⟨rfl, rfl, by decide, by decide⟩ rfl (gI.preV hK va_S.rf hP (show A (20, 0) = some (h, .inr (5, [.ref (ad 0), .ref (ad 1), .int (nI bn), .ref (ad 3), .ref (ad 4), .ref (ad 5), .ref (ad 6), .ref (ad 7), .ref (ad 8), .ref (ad 9), .ref (ad 10), .int (nI rs.length), .ref (ad 12), .ref (ad 13), .ref (ad 14), .ref (ad 15), .ref (ad 16), .ref (ad 17), .ref (ad 18), .ref (ad 19), .ref (ad 20), .ref (ad 21), .int (nI nn), .int (nI m1 - 1)])) from hM.1) rfl _) rfl hl.1 rfl (Nat.le_of_ble_eq_true rfl) d_MM_plain_105 ⟨by decide, by decide⟩) (fun r10 hr10 => ?_)
        subst hr10
        rw [← hus rr (by omega)]
        refine lv_i2l (v := (nI (uUs (rs.getD rr u0))).toInt64) hx hb d_MM_plain_108 rfl ?_
        exact W.lret hx hb hr (fun t ht _ => ⟨_, rfl, (by rw [plainS_p (by rw [c9]; decide)]; unfold ansA; rw [c9, if_neg (by decide), if_pos rfl]), ht⟩) (fun _ h => nomatch h) d_MM_plain_109
      by_cases c11 : (uAct (rs.getD rr u0)).1 = 3
      · refine lv_tableIn (off := 69) (tgt := 110) hx hb d_MM_plain_41 (by rw [c11]; decide) (by rw [c11]; decide) (by rw [c11]; rfl) (by decide) ?_
        refine lv_ldc2 (v := 40000000000) hx hb hown (hts _ k_569) d_MM_plain_110 ?_
        refine lv_aload_n hx hb d_MM_plain_113 rfl (lv_at hl 0 rfl) ?_
        refine g_get hx hb hts i_MM hown hK.1 hP (show A (20, 0) = some (h, .inr (5, [.ref (ad 0), .ref (ad 1), .int (nI bn), .ref (ad 3), .ref (ad 4), .ref (ad 5), .ref (ad 6), .ref (ad 7), .ref (ad 8), .ref (ad 9), .ref (ad 10), .int (nI rs.length), .ref (ad 12), .ref (ad 13), .ref (ad 14), .ref (ad 15), .ref (ad 16), .ref (ad 17), .ref (ad 18), .ref (ad 19), .ref (ad 20), .ref (ad 21), .int (nI nn), .int (nI m1 - 1)])) from hM.1) rfl 9 (by decide) (hts _ k_452) (fun _ h9 => h9) rfl d_MM_plain_114 ?_
        refine lv_iload_n hx hb d_MM_plain_117 rfl (lv_at hl 2 rfl) ?_
        refine g_iald (v := (uAct (rs.getD rr u0)).2) hx hb hK.1 hP 0 (show A (30, 0) = some (ad 9, .inl (cI, 96, .inl (F 9))) from hM.2.1 9 rfl) rfl (vp_in_nI (show pz < 96 by omega) (by omega)) (by rw [(nI_clamp (show pz < 2 ^ 31 by omega))]; exact hk8.2) d_MM_plain_118 ?_
        refine lv_i2l (v := ((uAct (rs.getD rr u0)).2).toInt64) hx hb d_MM_plain_119 rfl ?_
        refine lv_ladd hx hb d_MM_plain_120 ?_
        exact W.lret hx hb hr (fun t ht _ => ⟨_, rfl, (by rw [plainS_p (by rw [c11]; decide)]; unfold ansA; rw [c11, if_neg (by decide), if_neg (by decide), if_pos rfl]; rfl), ht⟩) (fun _ h => nomatch h) d_MM_plain_121
      refine lv_tableOut (tgt := 122) hx hb d_MM_plain_41 (by have q0 := lv_neT c7 (show (0 : Int32).toInt = 0 by decide); have q1 := lv_neT c8 (show (1 : Int32).toInt = 1 by decide); have q2 := lv_neT c9 (show (2 : Int32).toInt = 2 by decide); have q3 := lv_neT c11 (show (3 : Int32).toInt = 3 by decide); omega) (by decide) ?_
      refine lv_ldc2 (v := 20000000001) hx hb hown (hts _ k_570) d_MM_plain_122 ?_
      exact W.lret hx hb hr (fun t ht _ => ⟨_, rfl, (by rw [plainS_4 (hac.1.elim (fun e => absurd e c7) fun q => q.elim (fun e => absurd e c8) fun q => q.elim (fun e => absurd e c9) fun q => q.elim (fun e => absurd e c11) id)]; rfl), ht⟩) (fun _ h => nomatch h) d_MM_plain_125
