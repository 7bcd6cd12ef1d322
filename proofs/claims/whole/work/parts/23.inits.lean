set_option maxHeartbeats 4000000 in
set_option maxRecDepth 100000 in
theorem c_In_init (l : Launch) {D : va_G} {cI cZ cO cL : ClassId} {b e0 : Nat} {A : gW} {i h : Nat} (f0 : A (11, i) = some (h, .inr (3, [.int 0, .int 0, .int 0, .int 0, .int 0, .int 0, .int 0, .int 0, .long 0, .int 0, .int 0]))) {mk mt : Nat} (hmt : mt < 8) (xa xb xc : Int32) (dp : Nat) (fr : Int32) : Met l y_In_init (Cond.code y_In_init b_In_init 9 none :: TT) ({ frames := 1, cells := 0, slots := 0, locals := 20 }) (va_Pc [.ref h, .int (nI mk), .int (nI mt), .int xa, .int xb, .int xc, .int (nI dp), .int fr] (gI D [(cI, .int), (cZ, .boolean), (cO, .object "java/lang/Object"), (cL, .long)] b e0 A)) (va_Qv (fun A2 : gW => rIn A2 i h (mk, mt, cut mt (xa, xb, xc), dp, fr, 0, xNONE, false, true) ∧ gF [11] i A A2) (fun A2 t => gP D classes b A2 t.heap) (fun q => b ≤ q)) 0 0 (fun q => b ≤ q) := by
  refine Met.ofG (own := R_In) (by decide +kernel) rfl (Nat.le_of_ble_eq_true rfl) ?_
  intro p e s m below meth c ls hx hb hr hlk hml hown hnm hts hI hl
  have hl : lv_has ls 9 [(0, .ref h), (1, .int (nI mk)), (2, .int (nI mt)), (3, .int xa), (4, .int xb), (5, .int xc), (6, .int (nI dp)), (7, .int fr)] := hl
  have hS : gS b s.heap s.heap [] := va_S.rf
  obtain ⟨hP, hK⟩ := hI
  refine lv_aload_n hx hb d_In_init_0 rfl (lv_at hl 0 rfl) ?_
  refine W.objInit hx hb hown (hts _ k_268) (hts _ k_21) (hts _ k_22) rfl (by rw [hml]; exact hl.1) rfl d_In_init_1 (Nat.le_of_ble_eq_true rfl) (Nat.le_of_ble_eq_true rfl) ?_
  refine W.eq (g2 := F0 m 4 ls []) rfl ?_
  refine lv_aload_n hx hb d_In_init_4 rfl (lv_at hl 0 rfl) ?_
  refine lv_iconst (v := (-1)) hx hb d_In_init_5 (by decide) ?_
  refine g_put (ty := .int) (v := .int (-1)) hx hb hts i_In t_In t_In_ok n_In hown hK.1 hP hS f0 rfl 7 (by decide) (hts _ k_287) (fun _ h9 => h9) rfl (by decide +kernel) rfl rfl (Nat.le_of_ble_eq_true rfl) d_In_init_6 (fun H locs hP hS => ?_)
  obtain ⟨A1, eA1⟩ : ∃ z, z = gU A (11, i) (h, .inr (3, [.int 0, .int 0, .int 0, .int 0, .int 0, .int 0, .int 0, .int (-1), .long 0, .int 0, .int 0])) := ⟨_, rfl⟩
  replace hP : gP D classes b A1 H := by rw [eA1]; exact hP
  have f2 : A1 (11, i) = some (h, .inr (3, [.int 0, .int 0, .int 0, .int 0, .int 0, .int 0, .int 0, .int (-1), .long 0, .int 0, .int 0])) := by rw [eA1]; exact gU_s
  have gA1 : gF [11] i A A1 := by rw [eA1]; exact gF_U gF.rf (by decide)
  refine lv_aload_n hx hb d_In_init_9 rfl (lv_at hl 0 rfl) ?_
  refine lv_ldc2 (v := 60000000000) hx hb hown (hts _ k_269) d_In_init_10 ?_
  refine g_put (ty := .long) (v := .long 60000000000) hx hb hts i_In t_In t_In_ok n_In hown hK.1 hP hS f2 rfl 8 (by decide) (hts _ k_289) (fun _ h9 => h9) rfl (by decide +kernel) rfl rfl (Nat.le_of_ble_eq_true rfl) d_In_init_13 (fun H locs hP hS => ?_)
  obtain ⟨A3, eA3⟩ : ∃ z, z = gU A1 (11, i) (h, .inr (3, [.int 0, .int 0, .int 0, .int 0, .int 0, .int 0, .int 0, .int (-1), .long 60000000000, .int 0, .int 0])) := ⟨_, rfl⟩
  replace hP : gP D classes b A3 H := by rw [eA3]; exact hP
  have f4 : A3 (11, i) = some (h, .inr (3, [.int 0, .int 0, .int 0, .int 0, .int 0, .int 0, .int 0, .int (-1), .long 60000000000, .int 0, .int 0])) := by rw [eA3]; exact gU_s
  have gA3 : gF [11] i A A3 := by rw [eA3]; exact gF_U gA1 (by decide)
  refine lv_aload_n hx hb d_In_init_16 rfl (lv_at hl 0 rfl) ?_
  refine lv_iconst (v := 0) hx hb d_In_init_17 (by decide) ?_
  refine g_put (ty := .boolean) (v := .int 0) hx hb hts i_In t_In t_In_ok n_In hown hK.1 hP hS f4 rfl 9 (by decide) (hts _ k_291) (fun _ h9 => h9) rfl (by decide +kernel) rfl rfl (Nat.le_of_ble_eq_true rfl) d_In_init_18 (fun H locs hP hS => ?_)
  obtain ⟨A5, eA5⟩ : ∃ z, z = gU A3 (11, i) (h, .inr (3, [.int 0, .int 0, .int 0, .int 0, .int 0, .int 0, .int 0, .int (-1), .long 60000000000, .int 0, .int 0])) := ⟨_, rfl⟩
  replace hP : gP D classes b A5 H := by rw [eA5]; exact hP
  have f6 : A5 (11, i) = some (h, .inr (3, [.int 0, .int 0, .int 0, .int 0, .int 0, .int 0, .int 0, .int (-1), .long 60000000000, .int 0, .int 0])) := by rw [eA5]; exact gU_s
  have gA5 : gF [11] i A A5 := by rw [eA5]; exact gF_U gA3 (by decide)
  refine lv_aload_n hx hb d_In_init_21 rfl (lv_at hl 0 rfl) ?_
  refine lv_iconst (v := 1) hx hb d_In_init_22 (by decide) ?_
  refine g_put (ty := .boolean) (v := .int 1) hx hb hts i_In t_In t_In_ok n_In hown hK.1 hP hS f6 rfl 10 (by decide) (hts _ k_293) (fun _ h9 => h9) rfl (by decide +kernel) rfl rfl (Nat.le_of_ble_eq_true rfl) d_In_init_23 (fun H locs hP hS => ?_)
  obtain ⟨A7, eA7⟩ : ∃ z, z = gU A5 (11, i) (h, .inr (3, [.int 0, .int 0, .int 0, .int 0, .int 0, .int 0, .int 0, .int (-1), .long 60000000000, .int 0, .int 1])) := ⟨_, rfl⟩
  replace hP : gP D classes b A7 H := by rw [eA7]; exact hP
  have f8 : A7 (11, i) = some (h, .inr (3, [.int 0, .int 0, .int 0, .int 0, .int 0, .int 0, .int 0, .int (-1), .long 60000000000, .int 0, .int 1])) := by rw [eA7]; exact gU_s
  have gA7 : gF [11] i A A7 := by rw [eA7]; exact gF_U gA5 (by decide)
  refine lv_iload_n hx hb d_In_init_26 rfl (lv_at hl 2 rfl) ?_
  refine g_ri (g_runSN (As := [.int (nI mt)]) (rest := []) ⟨hx, hb, hml, hown, hts⟩ (c_MB_argumentsOf l (nI mt)) st_MB_argumentsOf (hK.2.1 _ (List.mem_of_getElem? (i := 4) rfl)) ⟨rfl, rfl, by decide, by decide⟩ (gT_pre _) rfl hl.1 rfl (Nat.le_of_ble_eq_true rfl) d_In_init_27 ⟨by decide, by decide⟩) (fun r9 hr9 => ?_)
  subst hr9
  rw [rem4 (show mt < 2 ^ 31 by omega)]
  rcases (by omega : mt % 4 = 0 ∨ mt % 4 = 1 ∨ mt % 4 = 2 ∨ mt % 4 = 3) with e4 | e4 | e4 | e4
  · rw [e4]
    refine lv_istore (lv' := [(8, .int (nI 0)), (0, .ref h), (1, .int (nI mk)), (2, .int (nI mt)), (3, .int xa), (4, .int xb), (5, .int xc), (6, .int (nI dp)), (7, .int fr)]) hx hb d_In_init_30 hl (by decide) rfl (fun ls hl => ?_)
    refine lv_aload_n hx hb d_In_init_32 rfl (lv_at hl 1 rfl) ?_
    refine lv_iload_n hx hb d_In_init_33 rfl (lv_at hl 2 rfl) ?_
    refine g_putF (ty := .int) (v := .int (nI mk)) hx hb hts i_In t_In t_In_ok n_In hown hK.1 hP hS f8 rfl 0 (by decide) (hts _ k_271) (fun _ h9 => h9) rfl hnm rfl (by decide +kernel) rfl rfl (Nat.le_of_ble_eq_true rfl) d_In_init_34 (fun H locs hP hS => ?_)
    obtain ⟨A10, eA10⟩ : ∃ z, z = gU A7 (11, i) (h, .inr (3, [.int (nI mk), .int 0, .int 0, .int 0, .int 0, .int 0, .int 0, .int (-1), .long 60000000000, .int 0, .int 1])) := ⟨_, rfl⟩
    replace hP : gP D classes b A10 H := by rw [eA10]; exact hP
    have f11 : A10 (11, i) = some (h, .inr (3, [.int (nI mk), .int 0, .int 0, .int 0, .int 0, .int 0, .int 0, .int (-1), .long 60000000000, .int 0, .int 1])) := by rw [eA10]; exact gU_s
    have gA10 : gF [11] i A A10 := by rw [eA10]; exact gF_U gA7 (by decide)
    refine lv_aload_n hx hb d_In_init_37 rfl (lv_at hl 1 rfl) ?_
    refine lv_iload_n hx hb d_In_init_38 rfl (lv_at hl 3 rfl) ?_
    refine g_putF (ty := .int) (v := .int (nI mt)) hx hb hts i_In t_In t_In_ok n_In hown hK.1 hP hS f11 rfl 1 (by decide) (hts _ k_274) (fun _ h9 => h9) rfl hnm rfl (by decide +kernel) rfl rfl (Nat.le_of_ble_eq_true rfl) d_In_init_39 (fun H locs hP hS => ?_)
    obtain ⟨A12, eA12⟩ : ∃ z, z = gU A10 (11, i) (h, .inr (3, [.int (nI mk), .int (nI mt), .int 0, .int 0, .int 0, .int 0, .int 0, .int (-1), .long 60000000000, .int 0, .int 1])) := ⟨_, rfl⟩
    replace hP : gP D classes b A12 H := by rw [eA12]; exact hP
    have f13 : A12 (11, i) = some (h, .inr (3, [.int (nI mk), .int (nI mt), .int 0, .int 0, .int 0, .int 0, .int 0, .int (-1), .long 60000000000, .int 0, .int 1])) := by rw [eA12]; exact gU_s
    have gA12 : gF [11] i A A12 := by rw [eA12]; exact gF_U gA10 (by decide)
    refine lv_aload_n hx hb d_In_init_42 rfl (lv_at hl 1 rfl) ?_
    refine lv_iload hx hb d_In_init_43 (lv_at hl 0 rfl) ?_
    refine lv_if_le (tgt := 52) hx hb d_In_init_45 (by decide) (fun _ => ?_) (fun h9 => absurd (by decide) h9)
    refine lv_iconst (v := 0) hx hb d_In_init_52 (by decide) ?_
    refine g_putF (ty := .int) (v := .int 0) hx hb hts i_In t_In t_In_ok n_In hown hK.1 hP hS f13 rfl 2 (by decide) (hts _ k_277) (fun _ h9 => h9) rfl hnm rfl (by decide +kernel) rfl rfl (Nat.le_of_ble_eq_true rfl) d_In_init_53 (fun H locs hP hS => ?_)
    obtain ⟨A15, eA15⟩ : ∃ z, z = gU A12 (11, i) (h, .inr (3, [.int (nI mk), .int (nI mt), .int 0, .int 0, .int 0, .int 0, .int 0, .int (-1), .long 60000000000, .int 0, .int 1])) := ⟨_, rfl⟩
    replace hP : gP D classes b A15 H := by rw [eA15]; exact hP
    have f16 : A15 (11, i) = some (h, .inr (3, [.int (nI mk), .int (nI mt), .int 0, .int 0, .int 0, .int 0, .int 0, .int (-1), .long 60000000000, .int 0, .int 1])) := by rw [eA15]; exact gU_s
    have gA15 : gF [11] i A A15 := by rw [eA15]; exact gF_U gA12 (by decide)
    refine lv_aload_n hx hb d_In_init_56 rfl (lv_at hl 1 rfl) ?_
    refine lv_iload hx hb d_In_init_57 (lv_at hl 0 rfl) ?_
    refine lv_iconst (v := 1) hx hb d_In_init_59 (by decide) ?_
    refine lv_icmp_le (tgt := 68) hx hb d_In_init_60 (by decide) (fun _ => ?_) (fun h9 => absurd (by decide) h9)
    refine lv_iconst (v := 0) hx hb d_In_init_68 (by decide) ?_
    refine g_putF (ty := .int) (v := .int 0) hx hb hts i_In t_In t_In_ok n_In hown hK.1 hP hS f16 rfl 3 (by decide) (hts _ k_279) (fun _ h9 => h9) rfl hnm rfl (by decide +kernel) rfl rfl (Nat.le_of_ble_eq_true rfl) d_In_init_69 (fun H locs hP hS => ?_)
    obtain ⟨A18, eA18⟩ : ∃ z, z = gU A15 (11, i) (h, .inr (3, [.int (nI mk), .int (nI mt), .int 0, .int 0, .int 0, .int 0, .int 0, .int (-1), .long 60000000000, .int 0, .int 1])) := ⟨_, rfl⟩
    replace hP : gP D classes b A18 H := by rw [eA18]; exact hP
    have f19 : A18 (11, i) = some (h, .inr (3, [.int (nI mk), .int (nI mt), .int 0, .int 0, .int 0, .int 0, .int 0, .int (-1), .long 60000000000, .int 0, .int 1])) := by rw [eA18]; exact gU_s
    have gA18 : gF [11] i A A18 := by rw [eA18]; exact gF_U gA15 (by decide)
    refine lv_aload_n hx hb d_In_init_72 rfl (lv_at hl 1 rfl) ?_
    refine lv_iload hx hb d_In_init_73 (lv_at hl 0 rfl) ?_
    refine lv_iconst (v := 2) hx hb d_In_init_75 (by decide) ?_
    refine lv_icmp_le (tgt := 84) hx hb d_In_init_76 (by decide) (fun _ => ?_) (fun h9 => absurd (by decide) h9)
    refine lv_iconst (v := 0) hx hb d_In_init_84 (by decide) ?_
    refine g_putF (ty := .int) (v := .int 0) hx hb hts i_In t_In t_In_ok n_In hown hK.1 hP hS f19 rfl 4 (by decide) (hts _ k_281) (fun _ h9 => h9) rfl hnm rfl (by decide +kernel) rfl rfl (Nat.le_of_ble_eq_true rfl) d_In_init_85 (fun H locs hP hS => ?_)
    obtain ⟨A21, eA21⟩ : ∃ z, z = gU A18 (11, i) (h, .inr (3, [.int (nI mk), .int (nI mt), .int 0, .int 0, .int 0, .int 0, .int 0, .int (-1), .long 60000000000, .int 0, .int 1])) := ⟨_, rfl⟩
    replace hP : gP D classes b A21 H := by rw [eA21]; exact hP
    have f22 : A21 (11, i) = some (h, .inr (3, [.int (nI mk), .int (nI mt), .int 0, .int 0, .int 0, .int 0, .int 0, .int (-1), .long 60000000000, .int 0, .int 1])) := by rw [eA21]; exact gU_s
    have gA21 : gF [11] i A A21 := by rw [eA21]; exact gF_U gA18 (by decide)
    refine lv_aload_n hx hb d_In_init_88 rfl (lv_at hl 1 rfl) ?_
    refine lv_iload hx hb d_In_init_89 (lv_at hl 7 rfl) ?_
    refine g_putF (ty := .int) (v := .int (nI dp)) hx hb hts i_In t_In t_In_ok n_In hown hK.1 hP hS f22 rfl 5 (by decide) (hts _ k_283) (fun _ h9 => h9) rfl hnm rfl (by decide +kernel) rfl rfl (Nat.le_of_ble_eq_true rfl) d_In_init_91 (fun H locs hP hS => ?_)
    obtain ⟨A23, eA23⟩ : ∃ z, z = gU A21 (11, i) (h, .inr (3, [.int (nI mk), .int (nI mt), .int 0, .int 0, .int 0, .int (nI dp), .int 0, .int (-1), .long 60000000000, .int 0, .int 1])) := ⟨_, rfl⟩
    replace hP : gP D classes b A23 H := by rw [eA23]; exact hP
    have f24 : A23 (11, i) = some (h, .inr (3, [.int (nI mk), .int (nI mt), .int 0, .int 0, .int 0, .int (nI dp), .int 0, .int (-1), .long 60000000000, .int 0, .int 1])) := by rw [eA23]; exact gU_s
    have gA23 : gF [11] i A A23 := by rw [eA23]; exact gF_U gA21 (by decide)
    refine lv_aload_n hx hb d_In_init_94 rfl (lv_at hl 1 rfl) ?_
    refine lv_iload hx hb d_In_init_95 (lv_at hl 8 rfl) ?_
    refine g_putF (ty := .int) (v := .int fr) hx hb hts i_In t_In t_In_ok n_In hown hK.1 hP hS f24 rfl 6 (by decide) (hts _ k_285) (fun _ h9 => h9) rfl hnm rfl (by decide +kernel) rfl rfl (Nat.le_of_ble_eq_true rfl) d_In_init_97 (fun H locs hP hS => ?_)
    obtain ⟨A25, eA25⟩ : ∃ z, z = gU A23 (11, i) (h, .inr (3, [.int (nI mk), .int (nI mt), .int 0, .int 0, .int 0, .int (nI dp), .int fr, .int (-1), .long 60000000000, .int 0, .int 1])) := ⟨_, rfl⟩
    replace hP : gP D classes b A25 H := by rw [eA25]; exact hP
    have f26 : A25 (11, i) = some (h, .inr (3, [.int (nI mk), .int (nI mt), .int 0, .int 0, .int 0, .int (nI dp), .int fr, .int (-1), .long 60000000000, .int 0, .int 1])) := by rw [eA25]; exact gU_s
    have gA25 : gF [11] i A A25 := by rw [eA25]; exact gF_U gA23 (by decide)
    refine W.widen (k := 0) (n := 0) (by decide) (by decide) ?_
    exact W.vret hx hb hr (fun t ht _ => ⟨⟨A25, rfl, ⟨(by show A25 (11, i) = some (h, .inr (3, [.int (nI mk), .int (nI mt), .int (if 0 < mt % 4 then xa else 0), .int (if 1 < mt % 4 then xb else 0), .int (if 2 < mt % 4 then xc else 0), .int (nI dp), .int fr, .int (nI 0 - 1), .long xNONE, .int (bI false), .int (bI true)])); rw [e4]; exact f26), gA25⟩, show gP D classes b A25 t.heap by rw [ht]; exact hP⟩, hS.F ht⟩) hS.2.2 d_In_init_100
  · rw [e4]
    refine lv_istore (lv' := [(8, .int (nI 1)), (0, .ref h), (1, .int (nI mk)), (2, .int (nI mt)), (3, .int xa), (4, .int xb), (5, .int xc), (6, .int (nI dp)), (7, .int fr)]) hx hb d_In_init_30 hl (by decide) rfl (fun ls hl => ?_)
    refine lv_aload_n hx hb d_In_init_32 rfl (lv_at hl 1 rfl) ?_
    refine lv_iload_n hx hb d_In_init_33 rfl (lv_at hl 2 rfl) ?_
    refine g_putF (ty := .int) (v := .int (nI mk)) hx hb hts i_In t_In t_In_ok n_In hown hK.1 hP hS f8 rfl 0 (by decide) (hts _ k_271) (fun _ h9 => h9) rfl hnm rfl (by decide +kernel) rfl rfl (Nat.le_of_ble_eq_true rfl) d_In_init_34 (fun H locs hP hS => ?_)
    obtain ⟨A27, eA27⟩ : ∃ z, z = gU A7 (11, i) (h, .inr (3, [.int (nI mk), .int 0, .int 0, .int 0, .int 0, .int 0, .int 0, .int (-1), .long 60000000000, .int 0, .int 1])) := ⟨_, rfl⟩
    replace hP : gP D classes b A27 H := by rw [eA27]; exact hP
    have f28 : A27 (11, i) = some (h, .inr (3, [.int (nI mk), .int 0, .int 0, .int 0, .int 0, .int 0, .int 0, .int (-1), .long 60000000000, .int 0, .int 1])) := by rw [eA27]; exact gU_s
    have gA27 : gF [11] i A A27 := by rw [eA27]; exact gF_U gA7 (by decide)
    refine lv_aload_n hx hb d_In_init_37 rfl (lv_at hl 1 rfl) ?_
    refine lv_iload_n hx hb d_In_init_38 rfl (lv_at hl 3 rfl) ?_
    refine g_putF (ty := .int) (v := .int (nI mt)) hx hb hts i_In t_In t_In_ok n_In hown hK.1 hP hS f28 rfl 1 (by decide) (hts _ k_274) (fun _ h9 => h9) rfl hnm rfl (by decide +kernel) rfl rfl (Nat.le_of_ble_eq_true rfl) d_In_init_39 (fun H locs hP hS => ?_)
    obtain ⟨A29, eA29⟩ : ∃ z, z = gU A27 (11, i) (h, .inr (3, [.int (nI mk), .int (nI mt), .int 0, .int 0, .int 0, .int 0, .int 0, .int (-1), .long 60000000000, .int 0, .int 1])) := ⟨_, rfl⟩
    replace hP : gP D classes b A29 H := by rw [eA29]; exact hP
    have f30 : A29 (11, i) = some (h, .inr (3, [.int (nI mk), .int (nI mt), .int 0, .int 0, .int 0, .int 0, .int 0, .int (-1), .long 60000000000, .int 0, .int 1])) := by rw [eA29]; exact gU_s
    have gA29 : gF [11] i A A29 := by rw [eA29]; exact gF_U gA27 (by decide)
    refine lv_aload_n hx hb d_In_init_42 rfl (lv_at hl 1 rfl) ?_
    refine lv_iload hx hb d_In_init_43 (lv_at hl 0 rfl) ?_
    refine lv_if_le (tgt := 52) hx hb d_In_init_45 (by decide) (fun h9 => absurd h9 (by decide)) (fun _ => ?_)
    refine lv_iload_n hx hb d_In_init_48 rfl (lv_at hl 4 rfl) ?_
    refine lv_goto (tgt := 53) hx hb d_In_init_49 (by decide) ?_
    refine g_putF (ty := .int) (v := .int xa) hx hb hts i_In t_In t_In_ok n_In hown hK.1 hP hS f30 rfl 2 (by decide) (hts _ k_277) (fun _ h9 => h9) rfl hnm rfl (by decide +kernel) rfl rfl (Nat.le_of_ble_eq_true rfl) d_In_init_53 (fun H locs hP hS => ?_)
    obtain ⟨A32, eA32⟩ : ∃ z, z = gU A29 (11, i) (h, .inr (3, [.int (nI mk), .int (nI mt), .int xa, .int 0, .int 0, .int 0, .int 0, .int (-1), .long 60000000000, .int 0, .int 1])) := ⟨_, rfl⟩
    replace hP : gP D classes b A32 H := by rw [eA32]; exact hP
    have f33 : A32 (11, i) = some (h, .inr (3, [.int (nI mk), .int (nI mt), .int xa, .int 0, .int 0, .int 0, .int 0, .int (-1), .long 60000000000, .int 0, .int 1])) := by rw [eA32]; exact gU_s
    have gA32 : gF [11] i A A32 := by rw [eA32]; exact gF_U gA29 (by decide)
    refine lv_aload_n hx hb d_In_init_56 rfl (lv_at hl 1 rfl) ?_
    refine lv_iload hx hb d_In_init_57 (lv_at hl 0 rfl) ?_
    refine lv_iconst (v := 1) hx hb d_In_init_59 (by decide) ?_
    refine lv_icmp_le (tgt := 68) hx hb d_In_init_60 (by decide) (fun _ => ?_) (fun h9 => absurd (by decide) h9)
    refine lv_iconst (v := 0) hx hb d_In_init_68 (by decide) ?_
    refine g_putF (ty := .int) (v := .int 0) hx hb hts i_In t_In t_In_ok n_In hown hK.1 hP hS f33 rfl 3 (by decide) (hts _ k_279) (fun _ h9 => h9) rfl hnm rfl (by decide +kernel) rfl rfl (Nat.le_of_ble_eq_true rfl) d_In_init_69 (fun H locs hP hS => ?_)
    obtain ⟨A35, eA35⟩ : ∃ z, z = gU A32 (11, i) (h, .inr (3, [.int (nI mk), .int (nI mt), .int xa, .int 0, .int 0, .int 0, .int 0, .int (-1), .long 60000000000, .int 0, .int 1])) := ⟨_, rfl⟩
    replace hP : gP D classes b A35 H := by rw [eA35]; exact hP
    have f36 : A35 (11, i) = some (h, .inr (3, [.int (nI mk), .int (nI mt), .int xa, .int 0, .int 0, .int 0, .int 0, .int (-1), .long 60000000000, .int 0, .int 1])) := by rw [eA35]; exact gU_s
    have gA35 : gF [11] i A A35 := by rw [eA35]; exact gF_U gA32 (by decide)
    refine lv_aload_n hx hb d_In_init_72 rfl (lv_at hl 1 rfl) ?_
    refine lv_iload hx hb d_In_init_73 (lv_at hl 0 rfl) ?_
    refine lv_iconst (v := 2) hx hb d_In_init_75 (by decide) ?_
    refine lv_icmp_le (tgt := 84) hx hb d_In_init_76 (by decide) (fun _ => ?_) (fun h9 => absurd (by decide) h9)
    refine lv_iconst (v := 0) hx hb d_In_init_84 (by decide) ?_
    refine g_putF (ty := .int) (v := .int 0) hx hb hts i_In t_In t_In_ok n_In hown hK.1 hP hS f36 rfl 4 (by decide) (hts _ k_281) (fun _ h9 => h9) rfl hnm rfl (by decide +kernel) rfl rfl (Nat.le_of_ble_eq_true rfl) d_In_init_85 (fun H locs hP hS => ?_)
    obtain ⟨A38, eA38⟩ : ∃ z, z = gU A35 (11, i) (h, .inr (3, [.int (nI mk), .int (nI mt), .int xa, .int 0, .int 0, .int 0, .int 0, .int (-1), .long 60000000000, .int 0, .int 1])) := ⟨_, rfl⟩
    replace hP : gP D classes b A38 H := by rw [eA38]; exact hP
    have f39 : A38 (11, i) = some (h, .inr (3, [.int (nI mk), .int (nI mt), .int xa, .int 0, .int 0, .int 0, .int 0, .int (-1), .long 60000000000, .int 0, .int 1])) := by rw [eA38]; exact gU_s
    have gA38 : gF [11] i A A38 := by rw [eA38]; exact gF_U gA35 (by decide)
    refine lv_aload_n hx hb d_In_init_88 rfl (lv_at hl 1 rfl) ?_
    refine lv_iload hx hb d_In_init_89 (lv_at hl 7 rfl) ?_
    refine g_putF (ty := .int) (v := .int (nI dp)) hx hb hts i_In t_In t_In_ok n_In hown hK.1 hP hS f39 rfl 5 (by decide) (hts _ k_283) (fun _ h9 => h9) rfl hnm rfl (by decide +kernel) rfl rfl (Nat.le_of_ble_eq_true rfl) d_In_init_91 (fun H locs hP hS => ?_)
    obtain ⟨A40, eA40⟩ : ∃ z, z = gU A38 (11, i) (h, .inr (3, [.int (nI mk), .int (nI mt), .int xa, .int 0, .int 0, .int (nI dp), .int 0, .int (-1), .long 60000000000, .int 0, .int 1])) := ⟨_, rfl⟩
    replace hP : gP D classes b A40 H := by rw [eA40]; exact hP
    have f41 : A40 (11, i) = some (h, .inr (3, [.int (nI mk), .int (nI mt), .int xa, .int 0, .int 0, .int (nI dp), .int 0, .int (-1), .long 60000000000, .int 0, .int 1])) := by rw [eA40]; exact gU_s
    have gA40 : gF [11] i A A40 := by rw [eA40]; exact gF_U gA38 (by decide)
    refine lv_aload_n hx hb d_In_init_94 rfl (lv_at hl 1 rfl) ?_
    refine lv_iload hx hb d_In_init_95 (lv_at hl 8 rfl) ?_
    refine g_putF (ty := .int) (v := .int fr) hx hb hts i_In t_In t_In_ok n_In hown hK.1 hP hS f41 rfl 6 (by decide) (hts _ k_285) (fun _ h9 => h9) rfl hnm rfl (by decide +kernel) rfl rfl (Nat.le_of_ble_eq_true rfl) d_In_init_97 (fun H locs hP hS => ?_)
    obtain ⟨A42, eA42⟩ : ∃ z, z = gU A40 (11, i) (h, .inr (3, [.int (nI mk), .int (nI mt), .int xa, .int 0, .int 0, .int (nI dp), .int fr, .int (-1), .long 60000000000, .int 0, .int 1])) := ⟨_, rfl⟩
    replace hP : gP D classes b A42 H := by rw [eA42]; exact hP
    have f43 : A42 (11, i) = some (h, .inr (3, [.int (nI mk), .int (nI mt), .int xa, .int 0, .int 0, .int (nI dp), .int fr, .int (-1), .long 60000000000, .int 0, .int 1])) := by rw [eA42]; exact gU_s
    have gA42 : gF [11] i A A42 := by rw [eA42]; exact gF_U gA40 (by decide)
    refine W.widen (k := 0) (n := 0) (by decide) (by decide) ?_
    exact W.vret hx hb hr (fun t ht _ => ⟨⟨A42, rfl, ⟨(by show A42 (11, i) = some (h, .inr (3, [.int (nI mk), .int (nI mt), .int (if 0 < mt % 4 then xa else 0), .int (if 1 < mt % 4 then xb else 0), .int (if 2 < mt % 4 then xc else 0), .int (nI dp), .int fr, .int (nI 0 - 1), .long xNONE, .int (bI false), .int (bI true)])); rw [e4]; exact f43), gA42⟩, show gP D classes b A42 t.heap by rw [ht]; exact hP⟩, hS.F ht⟩) hS.2.2 d_In_init_100
  · rw [e4]
    refine lv_istore (lv' := [(8, .int (nI 2)), (0, .ref h), (1, .int (nI mk)), (2, .int (nI mt)), (3, .int xa), (4, .int xb), (5, .int xc), (6, .int (nI dp)), (7, .int fr)]) hx hb d_In_init_30 hl (by decide) rfl (fun ls hl => ?_)
    refine lv_aload_n hx hb d_In_init_32 rfl (lv_at hl 1 rfl) ?_
    refine lv_iload_n hx hb d_In_init_33 rfl (lv_at hl 2 rfl) ?_
    refine g_putF (ty := .int) (v := .int (nI mk)) hx hb hts i_In t_In t_In_ok n_In hown hK.1 hP hS f8 rfl 0 (by decide) (hts _ k_271) (fun _ h9 => h9) rfl hnm rfl (by decide +kernel) rfl rfl (Nat.le_of_ble_eq_true rfl) d_In_init_34 (fun H locs hP hS => ?_)
    obtain ⟨A44, eA44⟩ : ∃ z, z = gU A7 (11, i) (h, .inr (3, [.int (nI mk), .int 0, .int 0, .int 0, .int 0, .int 0, .int 0, .int (-1), .long 60000000000, .int 0, .int 1])) := ⟨_, rfl⟩
    replace hP : gP D classes b A44 H := by rw [eA44]; exact hP
    have f45 : A44 (11, i) = some (h, .inr (3, [.int (nI mk), .int 0, .int 0, .int 0, .int 0, .int 0, .int 0, .int (-1), .long 60000000000, .int 0, .int 1])) := by rw [eA44]; exact gU_s
    have gA44 : gF [11] i A A44 := by rw [eA44]; exact gF_U gA7 (by decide)
    refine lv_aload_n hx hb d_In_init_37 rfl (lv_at hl 1 rfl) ?_
    refine lv_iload_n hx hb d_In_init_38 rfl (lv_at hl 3 rfl) ?_
    refine g_putF (ty := .int) (v := .int (nI mt)) hx hb hts i_In t_In t_In_ok n_In hown hK.1 hP hS f45 rfl 1 (by decide) (hts _ k_274) (fun _ h9 => h9) rfl hnm rfl (by decide +kernel) rfl rfl (Nat.le_of_ble_eq_true rfl) d_In_init_39 (fun H locs hP hS => ?_)
    obtain ⟨A46, eA46⟩ : ∃ z, z = gU A44 (11, i) (h, .inr (3, [.int (nI mk), .int (nI mt), .int 0, .int 0, .int 0, .int 0, .int 0, .int (-1), .long 60000000000, .int 0, .int 1])) := ⟨_, rfl⟩
    replace hP : gP D classes b A46 H := by rw [eA46]; exact hP
    have f47 : A46 (11, i) = some (h, .inr (3, [.int (nI mk), .int (nI mt), .int 0, .int 0, .int 0, .int 0, .int 0, .int (-1), .long 60000000000, .int 0, .int 1])) := by rw [eA46]; exact gU_s
    have gA46 : gF [11] i A A46 := by rw [eA46]; exact gF_U gA44 (by decide)
    refine lv_aload_n hx hb d_In_init_42 rfl (lv_at hl 1 rfl) ?_
    refine lv_iload hx hb d_In_init_43 (lv_at hl 0 rfl) ?_
    refine lv_if_le (tgt := 52) hx hb d_In_init_45 (by decide) (fun h9 => absurd h9 (by decide)) (fun _ => ?_)
    refine lv_iload_n hx hb d_In_init_48 rfl (lv_at hl 4 rfl) ?_
    refine lv_goto (tgt := 53) hx hb d_In_init_49 (by decide) ?_
    refine g_putF (ty := .int) (v := .int xa) hx hb hts i_In t_In t_In_ok n_In hown hK.1 hP hS f47 rfl 2 (by decide) (hts _ k_277) (fun _ h9 => h9) rfl hnm rfl (by decide +kernel) rfl rfl (Nat.le_of_ble_eq_true rfl) d_In_init_53 (fun H locs hP hS => ?_)
    obtain ⟨A49, eA49⟩ : ∃ z, z = gU A46 (11, i) (h, .inr (3, [.int (nI mk), .int (nI mt), .int xa, .int 0, .int 0, .int 0, .int 0, .int (-1), .long 60000000000, .int 0, .int 1])) := ⟨_, rfl⟩
    replace hP : gP D classes b A49 H := by rw [eA49]; exact hP
    have f50 : A49 (11, i) = some (h, .inr (3, [.int (nI mk), .int (nI mt), .int xa, .int 0, .int 0, .int 0, .int 0, .int (-1), .long 60000000000, .int 0, .int 1])) := by rw [eA49]; exact gU_s
    have gA49 : gF [11] i A A49 := by rw [eA49]; exact gF_U gA46 (by decide)
    refine lv_aload_n hx hb d_In_init_56 rfl (lv_at hl 1 rfl) ?_
    refine lv_iload hx hb d_In_init_57 (lv_at hl 0 rfl) ?_
    refine lv_iconst (v := 1) hx hb d_In_init_59 (by decide) ?_
    refine lv_icmp_le (tgt := 68) hx hb d_In_init_60 (by decide) (fun h9 => absurd h9 (by decide)) (fun _ => ?_)
    refine lv_iload hx hb d_In_init_63 (lv_at hl 5 rfl) ?_
    refine lv_goto (tgt := 69) hx hb d_In_init_65 (by decide) ?_
    refine g_putF (ty := .int) (v := .int xb) hx hb hts i_In t_In t_In_ok n_In hown hK.1 hP hS f50 rfl 3 (by decide) (hts _ k_279) (fun _ h9 => h9) rfl hnm rfl (by decide +kernel) rfl rfl (Nat.le_of_ble_eq_true rfl) d_In_init_69 (fun H locs hP hS => ?_)
    obtain ⟨A52, eA52⟩ : ∃ z, z = gU A49 (11, i) (h, .inr (3, [.int (nI mk), .int (nI mt), .int xa, .int xb, .int 0, .int 0, .int 0, .int (-1), .long 60000000000, .int 0, .int 1])) := ⟨_, rfl⟩
    replace hP : gP D classes b A52 H := by rw [eA52]; exact hP
    have f53 : A52 (11, i) = some (h, .inr (3, [.int (nI mk), .int (nI mt), .int xa, .int xb, .int 0, .int 0, .int 0, .int (-1), .long 60000000000, .int 0, .int 1])) := by rw [eA52]; exact gU_s
    have gA52 : gF [11] i A A52 := by rw [eA52]; exact gF_U gA49 (by decide)
    refine lv_aload_n hx hb d_In_init_72 rfl (lv_at hl 1 rfl) ?_
    refine lv_iload hx hb d_In_init_73 (lv_at hl 0 rfl) ?_
    refine lv_iconst (v := 2) hx hb d_In_init_75 (by decide) ?_
    refine lv_icmp_le (tgt := 84) hx hb d_In_init_76 (by decide) (fun _ => ?_) (fun h9 => absurd (by decide) h9)
    refine lv_iconst (v := 0) hx hb d_In_init_84 (by decide) ?_
    refine g_putF (ty := .int) (v := .int 0) hx hb hts i_In t_In t_In_ok n_In hown hK.1 hP hS f53 rfl 4 (by decide) (hts _ k_281) (fun _ h9 => h9) rfl hnm rfl (by decide +kernel) rfl rfl (Nat.le_of_ble_eq_true rfl) d_In_init_85 (fun H locs hP hS => ?_)
    obtain ⟨A55, eA55⟩ : ∃ z, z = gU A52 (11, i) (h, .inr (3, [.int (nI mk), .int (nI mt), .int xa, .int xb, .int 0, .int 0, .int 0, .int (-1), .long 60000000000, .int 0, .int 1])) := ⟨_, rfl⟩
    replace hP : gP D classes b A55 H := by rw [eA55]; exact hP
    have f56 : A55 (11, i) = some (h, .inr (3, [.int (nI mk), .int (nI mt), .int xa, .int xb, .int 0, .int 0, .int 0, .int (-1), .long 60000000000, .int 0, .int 1])) := by rw [eA55]; exact gU_s
    have gA55 : gF [11] i A A55 := by rw [eA55]; exact gF_U gA52 (by decide)
    refine lv_aload_n hx hb d_In_init_88 rfl (lv_at hl 1 rfl) ?_
    refine lv_iload hx hb d_In_init_89 (lv_at hl 7 rfl) ?_
    refine g_putF (ty := .int) (v := .int (nI dp)) hx hb hts i_In t_In t_In_ok n_In hown hK.1 hP hS f56 rfl 5 (by decide) (hts _ k_283) (fun _ h9 => h9) rfl hnm rfl (by decide +kernel) rfl rfl (Nat.le_of_ble_eq_true rfl) d_In_init_91 (fun H locs hP hS => ?_)
    obtain ⟨A57, eA57⟩ : ∃ z, z = gU A55 (11, i) (h, .inr (3, [.int (nI mk), .int (nI mt), .int xa, .int xb, .int 0, .int (nI dp), .int 0, .int (-1), .long 60000000000, .int 0, .int 1])) := ⟨_, rfl⟩
    replace hP : gP D classes b A57 H := by rw [eA57]; exact hP
    have f58 : A57 (11, i) = some (h, .inr (3, [.int (nI mk), .int (nI mt), .int xa, .int xb, .int 0, .int (nI dp), .int 0, .int (-1), .long 60000000000, .int 0, .int 1])) := by rw [eA57]; exact gU_s
    have gA57 : gF [11] i A A57 := by rw [eA57]; exact gF_U gA55 (by decide)
    refine lv_aload_n hx hb d_In_init_94 rfl (lv_at hl 1 rfl) ?_
    refine lv_iload hx hb d_In_init_95 (lv_at hl 8 rfl) ?_
    refine g_putF (ty := .int) (v := .int fr) hx hb hts i_In t_In t_In_ok n_In hown hK.1 hP hS f58 rfl 6 (by decide) (hts _ k_285) (fun _ h9 => h9) rfl hnm rfl (by decide +kernel) rfl rfl (Nat.le_of_ble_eq_true rfl) d_In_init_97 (fun H locs hP hS => ?_)
    obtain ⟨A59, eA59⟩ : ∃ z, z = gU A57 (11, i) (h, .inr (3, [.int (nI mk), .int (nI mt), .int xa, .int xb, .int 0, .int (nI dp), .int fr, .int (-1), .long 60000000000, .int 0, .int 1])) := ⟨_, rfl⟩
    replace hP : gP D classes b A59 H := by rw [eA59]; exact hP
    have f60 : A59 (11, i) = some (h, .inr (3, [.int (nI mk), .int (nI mt), .int xa, .int xb, .int 0, .int (nI dp), .int fr, .int (-1), .long 60000000000, .int 0, .int 1])) := by rw [eA59]; exact gU_s
    have gA59 : gF [11] i A A59 := by rw [eA59]; exact gF_U gA57 (by decide)
    refine W.widen (k := 0) (n := 0) (by decide) (by decide) ?_
    exact W.vret hx hb hr (fun t ht _ => ⟨⟨A59, rfl, ⟨(by show A59 (11, i) = some (h, .inr (3, [.int (nI mk), .int (nI mt), .int (if 0 < mt % 4 then xa else 0), .int (if 1 < mt % 4 then xb else 0), .int (if 2 < mt % 4 then xc else 0), .int (nI dp), .int fr, .int (nI 0 - 1), .long xNONE, .int (bI false), .int (bI true)])); rw [e4]; exact f60), gA59⟩, show gP D classes b A59 t.heap by rw [ht]; exact hP⟩, hS.F ht⟩) hS.2.2 d_In_init_100
  · rw [e4]
    refine lv_istore (lv' := [(8, .int (nI 3)), (0, .ref h), (1, .int (nI mk)), (2, .int (nI mt)), (3, .int xa), (4, .int xb), (5, .int xc), (6, .int (nI dp)), (7, .int fr)]) hx hb d_In_init_30 hl (by decide) rfl (fun ls hl => ?_)
    refine lv_aload_n hx hb d_In_init_32 rfl (lv_at hl 1 rfl) ?_
    refine lv_iload_n hx hb d_In_init_33 rfl (lv_at hl 2 rfl) ?_
    refine g_putF (ty := .int) (v := .int (nI mk)) hx hb hts i_In t_In t_In_ok n_In hown hK.1 hP hS f8 rfl 0 (by decide) (hts _ k_271) (fun _ h9 => h9) rfl hnm rfl (by decide +kernel) rfl rfl (Nat.le_of_ble_eq_true rfl) d_In_init_34 (fun H locs hP hS => ?_)
    obtain ⟨A61, eA61⟩ : ∃ z, z = gU A7 (11, i) (h, .inr (3, [.int (nI mk), .int 0, .int 0, .int 0, .int 0, .int 0, .int 0, .int (-1), .long 60000000000, .int 0, .int 1])) := ⟨_, rfl⟩
    replace hP : gP D classes b A61 H := by rw [eA61]; exact hP
    have f62 : A61 (11, i) = some (h, .inr (3, [.int (nI mk), .int 0, .int 0, .int 0, .int 0, .int 0, .int 0, .int (-1), .long 60000000000, .int 0, .int 1])) := by rw [eA61]; exact gU_s
    have gA61 : gF [11] i A A61 := by rw [eA61]; exact gF_U gA7 (by decide)
    refine lv_aload_n hx hb d_In_init_37 rfl (lv_at hl 1 rfl) ?_
    refine lv_iload_n hx hb d_In_init_38 rfl (lv_at hl 3 rfl) ?_
    refine g_putF (ty := .int) (v := .int (nI mt)) hx hb hts i_In t_In t_In_ok n_In hown hK.1 hP hS f62 rfl 1 (by decide) (hts _ k_274) (fun _ h9 => h9) rfl hnm rfl (by decide +kernel) rfl rfl (Nat.le_of_ble_eq_true rfl) d_In_init_39 (fun H locs hP hS => ?_)
    obtain ⟨A63, eA63⟩ : ∃ z, z = gU A61 (11, i) (h, .inr (3, [.int (nI mk), .int (nI mt), .int 0, .int 0, .int 0, .int 0, .int 0, .int (-1), .long 60000000000, .int 0, .int 1])) := ⟨_, rfl⟩
    replace hP : gP D classes b A63 H := by rw [eA63]; exact hP
    have f64 : A63 (11, i) = some (h, .inr (3, [.int (nI mk), .int (nI mt), .int 0, .int 0, .int 0, .int 0, .int 0, .int (-1), .long 60000000000, .int 0, .int 1])) := by rw [eA63]; exact gU_s
    have gA63 : gF [11] i A A63 := by rw [eA63]; exact gF_U gA61 (by decide)
    refine lv_aload_n hx hb d_In_init_42 rfl (lv_at hl 1 rfl) ?_
    refine lv_iload hx hb d_In_init_43 (lv_at hl 0 rfl) ?_
    refine lv_if_le (tgt := 52) hx hb d_In_init_45 (by decide) (fun h9 => absurd h9 (by decide)) (fun _ => ?_)
    refine lv_iload_n hx hb d_In_init_48 rfl (lv_at hl 4 rfl) ?_
    refine lv_goto (tgt := 53) hx hb d_In_init_49 (by decide) ?_
    refine g_putF (ty := .int) (v := .int xa) hx hb hts i_In t_In t_In_ok n_In hown hK.1 hP hS f64 rfl 2 (by decide) (hts _ k_277) (fun _ h9 => h9) rfl hnm rfl (by decide +kernel) rfl rfl (Nat.le_of_ble_eq_true rfl) d_In_init_53 (fun H locs hP hS => ?_)
    obtain ⟨A66, eA66⟩ : ∃ z, z = gU A63 (11, i) (h, .inr (3, [.int (nI mk), .int (nI mt), .int xa, .int 0, .int 0, .int 0, .int 0, .int (-1), .long 60000000000, .int 0, .int 1])) := ⟨_, rfl⟩
    replace hP : gP D classes b A66 H := by rw [eA66]; exact hP
    have f67 : A66 (11, i) = some (h, .inr (3, [.int (nI mk), .int (nI mt), .int xa, .int 0, .int 0, .int 0, .int 0, .int (-1), .long 60000000000, .int 0, .int 1])) := by rw [eA66]; exact gU_s
    have gA66 : gF [11] i A A66 := by rw [eA66]; exact gF_U gA63 (by decide)
    refine lv_aload_n hx hb d_In_init_56 rfl (lv_at hl 1 rfl) ?_
    refine lv_iload hx hb d_In_init_57 (lv_at hl 0 rfl) ?_
    refine lv_iconst (v := 1) hx hb d_In_init_59 (by decide) ?_
    refine lv_icmp_le (tgt := 68) hx hb d_In_init_60 (by decide) (fun h9 => absurd h9 (by decide)) (fun _ => ?_)
    refine lv_iload hx hb d_In_init_63 (lv_at hl 5 rfl) ?_
    refine lv_goto (tgt := 69) hx hb d_In_init_65 (by decide) ?_
    refine g_putF (ty := .int) (v := .int xb) hx hb hts i_In t_In t_In_ok n_In hown hK.1 hP hS f67 rfl 3 (by decide) (hts _ k_279) (fun _ h9 => h9) rfl hnm rfl (by decide +kernel) rfl rfl (Nat.le_of_ble_eq_true rfl) d_In_init_69 (fun H locs hP hS => ?_)
    obtain ⟨A69, eA69⟩ : ∃ z, z = gU A66 (11, i) (h, .inr (3, [.int (nI mk), .int (nI mt), .int xa, .int xb, .int 0, .int 0, .int 0, .int (-1), .long 60000000000, .int 0, .int 1])) := ⟨_, rfl⟩
    replace hP : gP D classes b A69 H := by rw [eA69]; exact hP
    have f70 : A69 (11, i) = some (h, .inr (3, [.int (nI mk), .int (nI mt), .int xa, .int xb, .int 0, .int 0, .int 0, .int (-1), .long 60000000000, .int 0, .int 1])) := by rw [eA69]; exact gU_s
    have gA69 : gF [11] i A A69 := by rw [eA69]; exact gF_U gA66 (by decide)
    refine lv_aload_n hx hb d_In_init_72 rfl (lv_at hl 1 rfl) ?_
    refine lv_iload hx hb d_In_init_73 (lv_at hl 0 rfl) ?_
    refine lv_iconst (v := 2) hx hb d_In_init_75 (by decide) ?_
    refine lv_icmp_le (tgt := 84) hx hb d_In_init_76 (by decide) (fun h9 => absurd h9 (by decide)) (fun _ => ?_)
    refine lv_iload hx hb d_In_init_79 (lv_at hl 6 rfl) ?_
    refine lv_goto (tgt := 85) hx hb d_In_init_81 (by decide) ?_
    refine g_putF (ty := .int) (v := .int xc) hx hb hts i_In t_In t_In_ok n_In hown hK.1 hP hS f70 rfl 4 (by decide) (hts _ k_281) (fun _ h9 => h9) rfl hnm rfl (by decide +kernel) rfl rfl (Nat.le_of_ble_eq_true rfl) d_In_init_85 (fun H locs hP hS => ?_)
    obtain ⟨A72, eA72⟩ : ∃ z, z = gU A69 (11, i) (h, .inr (3, [.int (nI mk), .int (nI mt), .int xa, .int xb, .int xc, .int 0, .int 0, .int (-1), .long 60000000000, .int 0, .int 1])) := ⟨_, rfl⟩
    replace hP : gP D classes b A72 H := by rw [eA72]; exact hP
    have f73 : A72 (11, i) = some (h, .inr (3, [.int (nI mk), .int (nI mt), .int xa, .int xb, .int xc, .int 0, .int 0, .int (-1), .long 60000000000, .int 0, .int 1])) := by rw [eA72]; exact gU_s
    have gA72 : gF [11] i A A72 := by rw [eA72]; exact gF_U gA69 (by decide)
    refine lv_aload_n hx hb d_In_init_88 rfl (lv_at hl 1 rfl) ?_
    refine lv_iload hx hb d_In_init_89 (lv_at hl 7 rfl) ?_
    refine g_putF (ty := .int) (v := .int (nI dp)) hx hb hts i_In t_In t_In_ok n_In hown hK.1 hP hS f73 rfl 5 (by decide) (hts _ k_283) (fun _ h9 => h9) rfl hnm rfl (by decide +kernel) rfl rfl (Nat.le_of_ble_eq_true rfl) d_In_init_91 (fun H locs hP hS => ?_)
    obtain ⟨A74, eA74⟩ : ∃ z, z = gU A72 (11, i) (h, .inr (3, [.int (nI mk), .int (nI mt), .int xa, .int xb, .int xc, .int (nI dp), .int 0, .int (-1), .long 60000000000, .int 0, .int 1])) := ⟨_, rfl⟩
    replace hP : gP D classes b A74 H := by rw [eA74]; exact hP
    have f75 : A74 (11, i) = some (h, .inr (3, [.int (nI mk), .int (nI mt), .int xa, .int xb, .int xc, .int (nI dp), .int 0, .int (-1), .long 60000000000, .int 0, .int 1])) := by rw [eA74]; exact gU_s
    have gA74 : gF [11] i A A74 := by rw [eA74]; exact gF_U gA72 (by decide)
    refine lv_aload_n hx hb d_In_init_94 rfl (lv_at hl 1 rfl) ?_
    refine lv_iload hx hb d_In_init_95 (lv_at hl 8 rfl) ?_
    refine g_putF (ty := .int) (v := .int fr) hx hb hts i_In t_In t_In_ok n_In hown hK.1 hP hS f75 rfl 6 (by decide) (hts _ k_285) (fun _ h9 => h9) rfl hnm rfl (by decide +kernel) rfl rfl (Nat.le_of_ble_eq_true rfl) d_In_init_97 (fun H locs hP hS => ?_)
    obtain ⟨A76, eA76⟩ : ∃ z, z = gU A74 (11, i) (h, .inr (3, [.int (nI mk), .int (nI mt), .int xa, .int xb, .int xc, .int (nI dp), .int fr, .int (-1), .long 60000000000, .int 0, .int 1])) := ⟨_, rfl⟩
    replace hP : gP D classes b A76 H := by rw [eA76]; exact hP
    have f77 : A76 (11, i) = some (h, .inr (3, [.int (nI mk), .int (nI mt), .int xa, .int xb, .int xc, .int (nI dp), .int fr, .int (-1), .long 60000000000, .int 0, .int 1])) := by rw [eA76]; exact gU_s
    have gA76 : gF [11] i A A76 := by rw [eA76]; exact gF_U gA74 (by decide)
    refine W.widen (k := 0) (n := 0) (by decide) (by decide) ?_
    exact W.vret hx hb hr (fun t ht _ => ⟨⟨A76, rfl, ⟨(by show A76 (11, i) = some (h, .inr (3, [.int (nI mk), .int (nI mt), .int (if 0 < mt % 4 then xa else 0), .int (if 1 < mt % 4 then xb else 0), .int (if 2 < mt % 4 then xc else 0), .int (nI dp), .int fr, .int (nI 0 - 1), .long xNONE, .int (bI false), .int (bI true)])); rw [e4]; exact f77), gA76⟩, show gP D classes b A76 t.heap by rw [ht]; exact hP⟩, hS.F ht⟩) hS.2.2 d_In_init_100
set_option maxHeartbeats 4000000 in
set_option maxRecDepth 100000 in
theorem c_Co_init (l : Launch) {D : va_G} {cI cZ cO cL : ClassId} {b e0 : Nat} {A : gW} {w h : Nat} (f0 : A (1, w) = some (h, .inr (4, [.int 0, .null, .int 0]))) : Met l y_Co_init (Cond.code y_Co_init b_Co_init 1 none :: TT) ({ frames := 1, cells := 0, slots := 0, locals := 12 }) (va_Pc [.ref h] (gI D [(cI, .int), (cZ, .boolean), (cO, .object "java/lang/Object"), (cL, .long)] b e0 A)) (va_Qv (fun A2 : gW => A2 = A) (fun A2 t => gP D classes b A2 t.heap) (fun q => b ≤ q)) 0 0 (fun q => b ≤ q) := by
  refine Met.ofG (own := R_Co) (by decide +kernel) rfl (Nat.le_of_ble_eq_true rfl) ?_
  intro p e s m below meth c ls hx hb hr hlk hml hown hnm hts hI hl
  have hl : lv_has ls 1 [(0, .ref h)] := hl
  have hS : gS b s.heap s.heap [] := va_S.rf
  obtain ⟨hP, hK⟩ := hI
  refine lv_aload_n hx hb d_Co_init_0 rfl (lv_at hl 0 rfl) ?_
  refine W.objInit hx hb hown (hts _ k_34) (hts _ k_21) (hts _ k_22) rfl (by rw [hml]; exact hl.1) rfl d_Co_init_1 (Nat.le_of_ble_eq_true rfl) (Nat.le_of_ble_eq_true rfl) ?_
  refine W.eq (g2 := F0 m 4 ls []) rfl ?_
  refine W.widen (k := 0) (n := 0) (by decide) (by decide) ?_
  exact W.vret hx hb hr (fun t ht _ => ⟨⟨A, rfl, rfl, show gP D classes b A t.heap by rw [ht]; exact hP⟩, hS.F ht⟩) hS.2.2 d_Co_init_4
set_option maxHeartbeats 4000000 in
set_option maxRecDepth 100000 in
theorem c_Li_init (l : Launch) {D : va_G} {cI cZ cO cL : ClassId} {b e0 : Nat} {A : gW} {w h : Nat} (f0 : A (1, w) = some (h, .inr (4, [.int 0, .null, .int 0]))) : Met l y_Li_init (Cond.code y_Li_init b_Li_init 1 none :: TT) ({ frames := 2, cells := 0, slots := 0, locals := 32 }) (va_Pc [.ref h] (gI D [(cI, .int), (cZ, .boolean), (cO, .object "java/lang/Object"), (cL, .long)] b e0 A)) (va_Qv (fun A2 : gW => A2 (1, w) = some (h, .inr (4, [.int 0, .null, .int 0])) ∧ gF [1] w A A2) (fun A2 t => gP D classes b A2 t.heap) (fun q => b ≤ q)) 0 0 (fun q => b ≤ q) := by
  refine Met.ofG (own := R_Li) (by decide +kernel) rfl (Nat.le_of_ble_eq_true rfl) ?_
  intro p e s m below meth c ls hx hb hr hlk hml hown hnm hts hI hl
  have hl : lv_has ls 1 [(0, .ref h)] := hl
  have hS : gS b s.heap s.heap [] := va_S.rf
  obtain ⟨hP, hK⟩ := hI
  refine lv_aload_n hx hb d_Li_init_0 rfl (lv_at hl 0 rfl) ?_
  refine g_cv (B := fun A2 H => gP D classes b A2 H) (g_runI (b := h) (As := []) (rest := []) ⟨hx, hb, hml, hown, hts⟩ (c_Co_init l f0) st_Co_init k_31 ⟨rfl, rfl, by decide, by decide⟩ (gI.pre hK hS hP _) rfl hl.1 rfl (Nat.le_of_ble_eq_true rfl) d_Li_init_1 ⟨by decide, by decide⟩) hS (fun A1 H locs hp2 hP hS => ?_)
  replace hP : gP D classes b A1 H := hP
  refine W.widen (k := 0) (n := 0) (by decide) (by decide) ?_
  rw [hp2] at hP
  refine lv_aload_n hx hb d_Li_init_4 rfl (lv_at hl 0 rfl) ?_
  refine lv_iconst (v := 0) hx hb d_Li_init_5 (by decide) ?_
  refine g_put (ty := .int) (v := .int 0) hx hb hts i_AL t_AL t_AL_ok n_AL hown hK.1 hP hS f0 rfl 0 (by decide) (hts _ k_39) (fun _ h9 => h9) rfl (by decide +kernel) rfl rfl (Nat.le_of_ble_eq_true rfl) d_Li_init_6 (fun H locs hP hS => ?_)
  obtain ⟨A3, eA3⟩ : ∃ z, z = gU A (1, w) (h, .inr (4, [.int 0, .null, .int 0])) := ⟨_, rfl⟩
  replace hP : gP D classes b A3 H := by rw [eA3]; exact hP
  have f4 : A3 (1, w) = some (h, .inr (4, [.int 0, .null, .int 0])) := by rw [eA3]; exact gU_s
  have gA3 : gF [1] w A A3 := by rw [eA3]; exact gF_U gF.rf (by decide)
  refine W.widen (k := 0) (n := 0) (by decide) (by decide) ?_
  exact W.vret hx hb hr (fun t ht _ => ⟨⟨A3, rfl, ⟨f4, gA3⟩, show gP D classes b A3 t.heap by rw [ht]; exact hP⟩, hS.F ht⟩) hS.2.2 d_Li_init_9
set_option maxHeartbeats 4000000 in
set_option maxRecDepth 100000 in
theorem c_AL_init (l : Launch) {D : va_G} {cI cZ cO cL : ClassId} {b e0 : Nat} {A : gW} {w h : Nat} (f0 : A (1, w) = some (h, .inr (4, [.int 0, .null, .int 0]))) (fE : A (3, 0) = some (e0, gE cO)) (kk ci : Nat) (ad : Nat → Nat) : Met l y_AL_init (Cond.code y_AL_init b_AL_init 1 none :: TT) ({ frames := 3, cells := 0, slots := 0, locals := 52 }) (va_Pc [.ref h] (gI D [(cI, .int), (cZ, .boolean), (cO, .object "java/lang/Object"), (cL, .long)] b e0 A)) (va_Qv (fun A2 : gW => rAL cO e0 A2 w kk ci h 0 ad ∧ gF [1] w A A2) (fun A2 t => gP D classes b A2 t.heap) (fun q => b ≤ q)) 0 0 (fun q => b ≤ q) := by
  refine Met.ofG (own := R_AL) (by decide +kernel) rfl (Nat.le_of_ble_eq_true rfl) ?_
  intro p e s m below meth c ls hx hb hr hlk hml hown hnm hts hI hl
  have hl : lv_has ls 1 [(0, .ref h)] := hl
  have hS : gS b s.heap s.heap [] := va_S.rf
  obtain ⟨hP, hK⟩ := hI
  refine lv_aload_n hx hb d_AL_init_0 rfl (lv_at hl 0 rfl) ?_
  refine g_cv (B := fun A2 H => gP D classes b A2 H) (g_runI (b := h) (As := []) (rest := []) ⟨hx, hb, hml, hown, hts⟩ (c_Li_init l f0) st_Li_init k_28 ⟨rfl, rfl, by decide, by decide⟩ (gI.pre hK hS hP _) rfl hl.1 rfl (Nat.le_of_ble_eq_true rfl) d_AL_init_1 ⟨by decide, by decide⟩) hS (fun A1 H locs hp2 hP hS => ?_)
  replace hP : gP D classes b A1 H := hP
  refine W.widen (k := 0) (n := 0) (by decide) (by decide) ?_
  obtain ⟨fL1, gL1⟩ := hp2
  have f3 : A1 (3, 0) = some (e0, .inl (cO, 0, .inr (.inr (.inr (.inr (fun _ => none)))))) := (gL1.at (n := 3) (j := 0) (by decide)).trans fE
  refine lv_aload_n hx hb d_AL_init_4 rfl (lv_at hl 0 rfl) ?_
  refine va_gets hx hb hK.2.2.2.1 hS hown (hts _ k_35) (fun _ h9 => h9) d_AL_init_5 ?_
  refine g_put (ty := (.array (.object "java/lang/Object"))) (v := .ref e0) hx hb hts i_AL t_AL t_AL_ok n_AL hown hK.1 hP hS fL1 rfl 1 (by decide) (hts _ k_37) (fun _ h9 => h9) rfl (by decide +kernel) rfl rfl (Nat.le_of_ble_eq_true rfl) d_AL_init_8 (fun H locs hP hS => ?_)
  obtain ⟨A4, eA4⟩ : ∃ z, z = gU A1 (1, w) (h, .inr (4, [.int 0, .ref e0, .int 0])) := ⟨_, rfl⟩
  replace hP : gP D classes b A4 H := by rw [eA4]; exact hP
  have f5 : A4 (3, 0) = some (e0, .inl (cO, 0, .inr (.inr (.inr (.inr (fun _ => none)))))) := (by rw [eA4]; exact gU_n (gne (show (3 : Nat) ≠ 1 by decide)) : A4 (3, 0) = A1 (3, 0)).trans f3
  have f6 : A4 (1, w) = some (h, .inr (4, [.int 0, .ref e0, .int 0])) := by rw [eA4]; exact gU_s
  have gA4 : gF [1] w A A4 := by rw [eA4]; exact gF_U gL1 (by decide)
  refine W.widen (k := 0) (n := 0) (by decide) (by decide) ?_
  exact W.vret hx hb hr (fun t ht _ => ⟨⟨A4, rfl, ⟨⟨0, e0, 0, fun _ => none, (by rw [nI_0]; exact f6), Or.inl ⟨rfl, rfl⟩, f5, fun i hi => absurd hi (Nat.not_lt_zero i)⟩, gA4⟩, show gP D classes b A4 t.heap by rw [ht]; exact hP⟩, hS.F ht⟩) hS.2.2 d_AL_init_11
