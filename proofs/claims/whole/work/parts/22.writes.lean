set_option maxHeartbeats 4000000 in
set_option maxRecDepth 100000 in
theorem c_Ma_init (l : Launch) {D : va_G} {cI cZ cO cL : ClassId} {b e0 : Nat} {A : gW} {i h : Nat} (f0 : A (5, i) = some (h, .inr (1, [.null, .null, .int 0]))) : Met l y_Ma_init (Cond.code y_Ma_init b_Ma_init 1 none :: TT) ({ frames := 1, cells := 2, slots := 6, locals := 12 }) (va_Pc [.ref h] (gI D [(cI, .int), (cZ, .boolean), (cO, .object "java/lang/Object"), (cL, .long)] b e0 A)) (va_Qv (fun A2 : gW => rMa cI A2 i h [] ∧ gF [5, 6, 7] i A A2) (fun A2 t => gP D classes b A2 t.heap) (fun q => b ≤ q)) 2 6 (fun q => b ≤ q) := by
  refine Met.ofG (own := R_Ma) (by decide +kernel) rfl (Nat.le_of_ble_eq_true rfl) ?_
  intro p e s m below meth c ls hx hb hr hlk hml hown hnm hts hI hl
  have hl : lv_has ls 1 [(0, .ref h)] := hl
  have hS : gS b s.heap s.heap [] := va_S.rf
  obtain ⟨hP, hK⟩ := hI
  refine lv_aload_n hx hb d_Ma_init_0 rfl (lv_at hl 0 rfl) ?_
  refine W.objInit hx hb hown (hts _ k_54) (hts _ k_21) (hts _ k_22) rfl (by rw [hml]; exact hl.1) rfl d_Ma_init_1 (Nat.le_of_ble_eq_true rfl) (Nat.le_of_ble_eq_true rfl) ?_
  refine W.eq (g2 := F0 m 4 ls []) rfl ?_
  refine lv_aload_n hx hb d_Ma_init_4 rfl (lv_at hl 0 rfl) ?_
  refine lv_iconst (v := 3) hx hb d_Ma_init_5 (by decide) ?_
  refine g_newa (atype := .int) (a0 := (3, .inl (fun _ => 0))) (N' := 3) hx hb (hts _ k_67) rfl hK.1 hP hS (6, i) (hK.1.2 0 _ rfl).2 rfl (by decide) (by decide) (by decide) (by decide) (by decide) d_Ma_init_6 (fun q1 H hP hS => ?_)
  refine W.widen (k := 1) (n := 3) (by decide) (by decide) ?_
  obtain ⟨A2, eA2⟩ : ∃ z, z = gU A (6, i) (q1, .inl (cI, 3, .inl (fun _ => 0))) := ⟨_, rfl⟩
  replace hP : gP D classes b A2 H := by rw [eA2]; exact hP
  have f3 : A2 (5, i) = some (h, .inr (1, [.null, .null, .int 0])) := (by rw [eA2]; exact gU_n (gne (show (5 : Nat) ≠ 6 by decide)) : A2 (5, i) = A (5, i)).trans f0
  have f4 : A2 (6, i) = some (q1, .inl (cI, 3, .inl (fun _ => 0))) := by rw [eA2]; exact gU_s
  have gA2 : gF [5, 6, 7] i A A2 := by rw [eA2]; exact gF_U gF.rf (by decide)
  refine g_putF (ty := (.array .int)) hx hb hts i_Ma t_Ma t_Ma_ok n_Ma hown hK.1 hP hS f3 rfl 0 (by decide) (hts _ k_55) (fun _ h9 => h9) rfl hnm rfl (by decide +kernel) rfl rfl (Nat.le_of_ble_eq_true rfl) d_Ma_init_8 (fun H locs hP hS => ?_)
  obtain ⟨A5, eA5⟩ : ∃ z, z = gU A2 (5, i) (h, .inr (1, [.ref q1, .null, .int 0])) := ⟨_, rfl⟩
  replace hP : gP D classes b A5 H := by rw [eA5]; exact hP
  have f6 : A5 (6, i) = some (q1, .inl (cI, 3, .inl (fun _ => 0))) := (by rw [eA5]; exact gU_n (gne (show (6 : Nat) ≠ 5 by decide)) : A5 (6, i) = A2 (6, i)).trans f4
  have f7 : A5 (5, i) = some (h, .inr (1, [.ref q1, .null, .int 0])) := by rw [eA5]; exact gU_s
  have gA5 : gF [5, 6, 7] i A A5 := by rw [eA5]; exact gF_U gA2 (by decide)
  refine lv_aload_n hx hb d_Ma_init_11 rfl (lv_at hl 0 rfl) ?_
  refine lv_iconst (v := 3) hx hb d_Ma_init_12 (by decide) ?_
  refine g_newa (atype := .int) (a0 := (3, .inl (fun _ => 0))) (N' := 3) hx hb (hts _ k_67) rfl hK.1 hP hS (7, i) (hK.1.2 0 _ rfl).2 rfl (by decide) (by decide) (by decide) (by decide) (by decide) d_Ma_init_13 (fun q8 H hP hS => ?_)
  refine W.widen (k := 2) (n := 6) (by decide) (by decide) ?_
  obtain ⟨A9, eA9⟩ : ∃ z, z = gU A5 (7, i) (q8, .inl (cI, 3, .inl (fun _ => 0))) := ⟨_, rfl⟩
  replace hP : gP D classes b A9 H := by rw [eA9]; exact hP
  have f10 : A9 (5, i) = some (h, .inr (1, [.ref q1, .null, .int 0])) := (by rw [eA9]; exact gU_n (gne (show (5 : Nat) ≠ 7 by decide)) : A9 (5, i) = A5 (5, i)).trans f7
  have f11 : A9 (6, i) = some (q1, .inl (cI, 3, .inl (fun _ => 0))) := (by rw [eA9]; exact gU_n (gne (show (6 : Nat) ≠ 7 by decide)) : A9 (6, i) = A5 (6, i)).trans f6
  have f12 : A9 (7, i) = some (q8, .inl (cI, 3, .inl (fun _ => 0))) := by rw [eA9]; exact gU_s
  have gA9 : gF [5, 6, 7] i A A9 := by rw [eA9]; exact gF_U gA5 (by decide)
  refine g_putF (ty := (.array .int)) hx hb hts i_Ma t_Ma t_Ma_ok n_Ma hown hK.1 hP hS f10 rfl 1 (by decide) (hts _ k_56) (fun _ h9 => h9) rfl hnm rfl (by decide +kernel) rfl rfl (Nat.le_of_ble_eq_true rfl) d_Ma_init_15 (fun H locs hP hS => ?_)
  obtain ⟨A13, eA13⟩ : ∃ z, z = gU A9 (5, i) (h, .inr (1, [.ref q1, .ref q8, .int 0])) := ⟨_, rfl⟩
  replace hP : gP D classes b A13 H := by rw [eA13]; exact hP
  have f14 : A13 (6, i) = some (q1, .inl (cI, 3, .inl (fun _ => 0))) := (by rw [eA13]; exact gU_n (gne (show (6 : Nat) ≠ 5 by decide)) : A13 (6, i) = A9 (6, i)).trans f11
  have f15 : A13 (7, i) = some (q8, .inl (cI, 3, .inl (fun _ => 0))) := (by rw [eA13]; exact gU_n (gne (show (7 : Nat) ≠ 5 by decide)) : A13 (7, i) = A9 (7, i)).trans f12
  have f16 : A13 (5, i) = some (h, .inr (1, [.ref q1, .ref q8, .int 0])) := by rw [eA13]; exact gU_s
  have gA13 : gF [5, 6, 7] i A A13 := by rw [eA13]; exact gF_U gA9 (by decide)
  refine lv_aload_n hx hb d_Ma_init_18 rfl (lv_at hl 0 rfl) ?_
  refine lv_iconst (v := 0) hx hb d_Ma_init_19 (by decide) ?_
  refine g_put (ty := .int) hx hb hts i_Ma t_Ma t_Ma_ok n_Ma hown hK.1 hP hS f16 rfl 2 (by decide) (hts _ k_57) (fun _ h9 => h9) rfl (by decide +kernel) rfl rfl (Nat.le_of_ble_eq_true rfl) d_Ma_init_20 (fun H locs hP hS => ?_)
  obtain ⟨A17, eA17⟩ : ∃ z, z = gU A13 (5, i) (h, .inr (1, [.ref q1, .ref q8, .int 0])) := ⟨_, rfl⟩
  replace hP : gP D classes b A17 H := by rw [eA17]; exact hP
  have f18 : A17 (6, i) = some (q1, .inl (cI, 3, .inl (fun _ => 0))) := (by rw [eA17]; exact gU_n (gne (show (6 : Nat) ≠ 5 by decide)) : A17 (6, i) = A13 (6, i)).trans f14
  have f19 : A17 (7, i) = some (q8, .inl (cI, 3, .inl (fun _ => 0))) := (by rw [eA17]; exact gU_n (gne (show (7 : Nat) ≠ 5 by decide)) : A17 (7, i) = A13 (7, i)).trans f15
  have f20 : A17 (5, i) = some (h, .inr (1, [.ref q1, .ref q8, .int 0])) := by rw [eA17]; exact gU_s
  have gA17 : gF [5, 6, 7] i A A17 := by rw [eA17]; exact gF_U gA13 (by decide)
  refine W.widen (k := 2) (n := 6) (by decide) (by decide) ?_
  exact W.vret hx hb hr (fun t ht _ => ⟨⟨A17, rfl, ⟨⟨q1, q8, _, _, f20, f18, f19, by decide, fun j hj => absurd hj (Nat.not_lt_zero j)⟩, gA17⟩, show gP D classes b A17 t.heap by rw [ht]; exact hP⟩, hS.F ht⟩) hS.2.2 d_Ma_init_23
set_option maxHeartbeats 4000000 in
set_option maxRecDepth 100000 in
theorem c_Ma_add (l : Launch) {D : va_G} {cI cZ cO cL : ClassId} {b e0 : Nat} {A : gW} {i h : Nat} {ms : List Pr} (hm : rMa cI A i h ms) (h3 : ms.length < 3) (k v : Int32) : Met l y_Ma_add (Cond.code y_Ma_add b_Ma_add 3 none :: TT) ({ frames := 0, cells := 0, slots := 0, locals := 0 }) (va_Pc [.ref h, .int k, .int v] (gI D [(cI, .int), (cZ, .boolean), (cO, .object "java/lang/Object"), (cL, .long)] b e0 A)) (va_Qv (fun A2 : gW => rMa cI A2 i h (ms ++ [(k, v)]) ∧ gF [5, 6, 7] i A A2) (fun A2 t => gP D classes b A2 t.heap) (fun q => b ≤ q)) 0 0 (fun q => b ≤ q) := by
  refine Met.ofG (own := R_Ma) (by decide +kernel) rfl (Nat.le_of_ble_eq_true rfl) ?_
  intro p e s m below meth c ls hx hb hr hlk hml hown hnm hts hI hl
  have hl : lv_has ls 3 [(0, .ref h), (1, .int k), (2, .int v)] := hl
  have hS : gS b s.heap s.heap [] := va_S.rf
  obtain ⟨hP, hK⟩ := hI
  obtain ⟨hk, hv, fk, fv, fM, fK, fV, hn3, hms⟩ := id hm
  refine lv_aload_n hx hb d_Ma_add_0 rfl (lv_at hl 0 rfl) ?_
  refine g_get hx hb hts i_Ma hown hK.1 hP fM rfl 2 (by decide) (hts _ k_57) (fun _ h9 => h9) rfl d_Ma_add_1 ?_
  refine lv_iconst (v := 3) hx hb d_Ma_add_4 (by decide) ?_
  refine lv_icmp_ge (tgt := 38) hx hb d_Ma_add_5 (by decide) (fun h9 => absurd h9 (nI_ge (show ms.length < 3 by omega) (by decide))) (fun _ => ?_)
  refine lv_aload_n hx hb d_Ma_add_8 rfl (lv_at hl 0 rfl) ?_
  refine g_get hx hb hts i_Ma hown hK.1 hP fM rfl 0 (by decide) (hts _ k_55) (fun _ h9 => h9) rfl d_Ma_add_9 ?_
  refine lv_aload_n hx hb d_Ma_add_12 rfl (lv_at hl 0 rfl) ?_
  refine g_get hx hb hts i_Ma hown hK.1 hP fM rfl 2 (by decide) (hts _ k_57) (fun _ h9 => h9) rfl d_Ma_add_13 ?_
  refine lv_iload_n hx hb d_Ma_add_16 rfl (lv_at hl 1 rfl) ?_
  refine g_iast (k := ms.length) hx hb hK.1 hP hS 0 fK rfl (vp_in_nI (show ms.length < 3 by omega) (by omega)) (nI_clamp (show ms.length < 2 ^ 31 by omega)) d_Ma_add_17 (fun H locs hP hS => ?_)
  obtain ⟨A2, eA2⟩ : ∃ z, z = gU A (6, i) (hk, .inl (cI, 3, .inl (upd fk (ms.length) (k)))) := ⟨_, rfl⟩
  replace hP : gP D classes b A2 H := by rw [eA2]; exact hP
  have f3 : A2 (5, i) = some (h, .inr (1, [.ref hk, .ref hv, .int (nI ms.length)])) := (by rw [eA2]; exact gU_n (gne (show (5 : Nat) ≠ 6 by decide)) : A2 (5, i) = A (5, i)).trans fM
  have f4 : A2 (7, i) = some (hv, .inl (cI, 3, .inl fv)) := (by rw [eA2]; exact gU_n (gne (show (7 : Nat) ≠ 6 by decide)) : A2 (7, i) = A (7, i)).trans fV
  have f5 : A2 (6, i) = some (hk, .inl (cI, 3, .inl (upd fk (ms.length) (k)))) := by rw [eA2]; exact gU_s
  have gA2 : gF [5, 6, 7] i A A2 := by rw [eA2]; exact gF_U gF.rf (by decide)
  refine lv_aload_n hx hb d_Ma_add_18 rfl (lv_at hl 0 rfl) ?_
  refine g_get hx hb hts i_Ma hown hK.1 hP f3 rfl 1 (by decide) (hts _ k_56) (fun _ h9 => h9) rfl d_Ma_add_19 ?_
  refine lv_aload_n hx hb d_Ma_add_22 rfl (lv_at hl 0 rfl) ?_
  refine g_get hx hb hts i_Ma hown hK.1 hP f3 rfl 2 (by decide) (hts _ k_57) (fun _ h9 => h9) rfl d_Ma_add_23 ?_
  refine lv_iload_n hx hb d_Ma_add_26 rfl (lv_at hl 2 rfl) ?_
  refine g_iast (k := ms.length) hx hb hK.1 hP hS 0 f4 rfl (vp_in_nI (show ms.length < 3 by omega) (by omega)) (nI_clamp (show ms.length < 2 ^ 31 by omega)) d_Ma_add_27 (fun H locs hP hS => ?_)
  obtain ⟨A6, eA6⟩ : ∃ z, z = gU A2 (7, i) (hv, .inl (cI, 3, .inl (upd fv (ms.length) (v)))) := ⟨_, rfl⟩
  replace hP : gP D classes b A6 H := by rw [eA6]; exact hP
  have f7 : A6 (5, i) = some (h, .inr (1, [.ref hk, .ref hv, .int (nI ms.length)])) := (by rw [eA6]; exact gU_n (gne (show (5 : Nat) ≠ 7 by decide)) : A6 (5, i) = A2 (5, i)).trans f3
  have f8 : A6 (6, i) = some (hk, .inl (cI, 3, .inl (upd fk (ms.length) (k)))) := (by rw [eA6]; exact gU_n (gne (show (6 : Nat) ≠ 7 by decide)) : A6 (6, i) = A2 (6, i)).trans f5
  have f9 : A6 (7, i) = some (hv, .inl (cI, 3, .inl (upd fv (ms.length) (v)))) := by rw [eA6]; exact gU_s
  have gA6 : gF [5, 6, 7] i A A6 := by rw [eA6]; exact gF_U gA2 (by decide)
  refine lv_aload_n hx hb d_Ma_add_28 rfl (lv_at hl 0 rfl) ?_
  refine lv_dup hx hb d_Ma_add_29 rfl ?_
  refine g_get hx hb hts i_Ma hown hK.1 hP f7 rfl 2 (by decide) (hts _ k_57) (fun _ h9 => h9) rfl d_Ma_add_30 ?_
  refine lv_iconst (v := 1) hx hb d_Ma_add_33 (by decide) ?_
  refine lv_iadd hx hb d_Ma_add_34 ?_
  refine g_put (ty := .int) hx hb hts i_Ma t_Ma t_Ma_ok n_Ma hown hK.1 hP hS f7 rfl 2 (by decide) (hts _ k_57) (fun _ h9 => h9) rfl (by decide +kernel) rfl rfl (Nat.le_of_ble_eq_true rfl) d_Ma_add_35 (fun H locs hP hS => ?_)
  obtain ⟨A10, eA10⟩ : ∃ z, z = gU A6 (5, i) (h, .inr (1, [.ref hk, .ref hv, .int ((nI ms.length) + 1)])) := ⟨_, rfl⟩
  replace hP : gP D classes b A10 H := by rw [eA10]; exact hP
  have f11 : A10 (6, i) = some (hk, .inl (cI, 3, .inl (upd fk (ms.length) (k)))) := (by rw [eA10]; exact gU_n (gne (show (6 : Nat) ≠ 5 by decide)) : A10 (6, i) = A6 (6, i)).trans f8
  have f12 : A10 (7, i) = some (hv, .inl (cI, 3, .inl (upd fv (ms.length) (v)))) := (by rw [eA10]; exact gU_n (gne (show (7 : Nat) ≠ 5 by decide)) : A10 (7, i) = A6 (7, i)).trans f9
  have f13 : A10 (5, i) = some (h, .inr (1, [.ref hk, .ref hv, .int ((nI ms.length) + 1)])) := by rw [eA10]; exact gU_s
  have gA10 : gF [5, 6, 7] i A A10 := by rw [eA10]; exact gF_U gA6 (by decide)
  refine W.widen (k := 0) (n := 0) (by decide) (by decide) ?_
  exact W.vret hx hb hr (fun t ht _ => ⟨⟨A10, rfl, ⟨⟨hk, hv, _, _, (by rw [len1]; exact f13), f11, f12, by simp; omega, fun j hj => snocA hms hj⟩, gA10⟩, show gP D classes b A10 t.heap by rw [ht]; exact hP⟩, hS.F ht⟩) hS.2.2 d_Ma_add_38
set_option maxHeartbeats 4000000 in
set_option maxRecDepth 100000 in
theorem c_Ma_clear (l : Launch) {D : va_G} {cI cZ cO cL : ClassId} {b e0 : Nat} {A : gW} {i h : Nat} {ms : List Pr} (hm : rMa cI A i h ms) : Met l y_Ma_clear (Cond.code y_Ma_clear b_Ma_clear 1 none :: TT) ({ frames := 0, cells := 0, slots := 0, locals := 0 }) (va_Pc [.ref h] (gI D [(cI, .int), (cZ, .boolean), (cO, .object "java/lang/Object"), (cL, .long)] b e0 A)) (va_Qv (fun A2 : gW => rMa cI A2 i h [] ∧ gF [5, 6, 7] i A A2) (fun A2 t => gP D classes b A2 t.heap) (fun q => b ≤ q)) 0 0 (fun q => b ≤ q) := by
  refine Met.ofG (own := R_Ma) (by decide +kernel) rfl (Nat.le_of_ble_eq_true rfl) ?_
  intro p e s m below meth c ls hx hb hr hlk hml hown hnm hts hI hl
  have hl : lv_has ls 1 [(0, .ref h)] := hl
  have hS : gS b s.heap s.heap [] := va_S.rf
  obtain ⟨hP, hK⟩ := hI
  obtain ⟨hk, hv, fk, fv, fM, fK, fV, hn3, hms⟩ := id hm
  refine lv_aload_n hx hb d_Ma_clear_0 rfl (lv_at hl 0 rfl) ?_
  refine lv_iconst (v := 0) hx hb d_Ma_clear_1 (by decide) ?_
  refine g_put (ty := .int) hx hb hts i_Ma t_Ma t_Ma_ok n_Ma hown hK.1 hP hS fM rfl 2 (by decide) (hts _ k_57) (fun _ h9 => h9) rfl (by decide +kernel) rfl rfl (Nat.le_of_ble_eq_true rfl) d_Ma_clear_2 (fun H locs hP hS => ?_)
  obtain ⟨A1, eA1⟩ : ∃ z, z = gU A (5, i) (h, .inr (1, [.ref hk, .ref hv, .int 0])) := ⟨_, rfl⟩
  replace hP : gP D classes b A1 H := by rw [eA1]; exact hP
  have f2 : A1 (6, i) = some (hk, .inl (cI, 3, .inl fk)) := (by rw [eA1]; exact gU_n (gne (show (6 : Nat) ≠ 5 by decide)) : A1 (6, i) = A (6, i)).trans fK
  have f3 : A1 (7, i) = some (hv, .inl (cI, 3, .inl fv)) := (by rw [eA1]; exact gU_n (gne (show (7 : Nat) ≠ 5 by decide)) : A1 (7, i) = A (7, i)).trans fV
  have f4 : A1 (5, i) = some (h, .inr (1, [.ref hk, .ref hv, .int 0])) := by rw [eA1]; exact gU_s
  have gA1 : gF [5, 6, 7] i A A1 := by rw [eA1]; exact gF_U gF.rf (by decide)
  refine W.widen (k := 0) (n := 0) (by decide) (by decide) ?_
  exact W.vret hx hb hr (fun t ht _ => ⟨⟨A1, rfl, ⟨⟨hk, hv, fk, fv, f4, f2, f3, by decide, fun j hj => absurd hj (Nat.not_lt_zero j)⟩, gA1⟩, show gP D classes b A1 t.heap by rw [ht]; exact hP⟩, hS.F ht⟩) hS.2.2 d_Ma_clear_5
set_option maxHeartbeats 4000000 in
set_option maxRecDepth 100000 in
theorem c_Ru_init (l : Launch) {D : va_G} {cI cZ cO cL : ClassId} {b e0 : Nat} {A : gW} {i h : Nat} (f0 : A (8, i) = some (h, .inr (2, [.int 0, .int 0, .null, .null, .null, .int 0, .int 0, .int 0]))) (mk mt hm : Nat) (ms : List Pr) : Met l y_Ru_init (Cond.code y_Ru_init b_Ru_init 4 none :: TT) ({ frames := 1, cells := 2, slots := 8, locals := 12 }) (va_Pc [.ref h, .int (nI mk), .int (nI mt), .ref hm] (gI D [(cI, .int), (cZ, .boolean), (cO, .object "java/lang/Object"), (cL, .long)] b e0 A)) (va_Qv (fun A2 : gW => rRu cI A2 i h hm (mk, mt, ms, [], 0, true) ∧ gF [8, 9, 10] i A A2) (fun A2 t => gP D classes b A2 t.heap) (fun q => b ≤ q)) 2 8 (fun q => b ≤ q) := by
  refine Met.ofG (own := R_Ru) (by decide +kernel) rfl (Nat.le_of_ble_eq_true rfl) ?_
  intro p e s m below meth c ls hx hb hr hlk hml hown hnm hts hI hl
  have hl : lv_has ls 4 [(0, .ref h), (1, .int (nI mk)), (2, .int (nI mt)), (3, .ref hm)] := hl
  have hS : gS b s.heap s.heap [] := va_S.rf
  obtain ⟨hP, hK⟩ := hI
  refine lv_aload_n hx hb d_Ru_init_0 rfl (lv_at hl 0 rfl) ?_
  refine W.objInit hx hb hown (hts _ k_129) (hts _ k_21) (hts _ k_22) rfl (by rw [hml]; exact hl.1) rfl d_Ru_init_1 (Nat.le_of_ble_eq_true rfl) (Nat.le_of_ble_eq_true rfl) ?_
  refine W.eq (g2 := F0 m 4 ls []) rfl ?_
  refine lv_aload_n hx hb d_Ru_init_4 rfl (lv_at hl 0 rfl) ?_
  refine lv_iconst (v := 4) hx hb d_Ru_init_5 (by decide) ?_
  refine g_newa (atype := .int) (a0 := (4, .inl (fun _ => 0))) (N' := 4) hx hb (hts _ k_67) rfl hK.1 hP hS (9, i) (hK.1.2 0 _ rfl).2 rfl (by decide) (by decide) (by decide) (by decide) (by decide) d_Ru_init_6 (fun q1 H hP hS => ?_)
  refine W.widen (k := 1) (n := 4) (by decide) (by decide) ?_
  obtain ⟨A2, eA2⟩ : ∃ z, z = gU A (9, i) (q1, .inl (cI, 4, .inl (fun _ => 0))) := ⟨_, rfl⟩
  replace hP : gP D classes b A2 H := by rw [eA2]; exact hP
  have f3 : A2 (8, i) = some (h, .inr (2, [.int 0, .int 0, .null, .null, .null, .int 0, .int 0, .int 0])) := (by rw [eA2]; exact gU_n (gne (show (8 : Nat) ≠ 9 by decide)) : A2 (8, i) = A (8, i)).trans f0
  have f4 : A2 (9, i) = some (q1, .inl (cI, 4, .inl (fun _ => 0))) := by rw [eA2]; exact gU_s
  have gA2 : gF [8, 9, 10] i A A2 := by rw [eA2]; exact gF_U gF.rf (by decide)
  refine g_putF (ty := (.array .int)) hx hb hts i_Ru t_Ru t_Ru_ok n_Ru hown hK.1 hP hS f3 rfl 3 (by decide) (hts _ k_134) (fun _ h9 => h9) rfl hnm rfl (by decide +kernel) rfl rfl (Nat.le_of_ble_eq_true rfl) d_Ru_init_8 (fun H locs hP hS => ?_)
  obtain ⟨A5, eA5⟩ : ∃ z, z = gU A2 (8, i) (h, .inr (2, [.int 0, .int 0, .null, .ref q1, .null, .int 0, .int 0, .int 0])) := ⟨_, rfl⟩
  replace hP : gP D classes b A5 H := by rw [eA5]; exact hP
  have f6 : A5 (9, i) = some (q1, .inl (cI, 4, .inl (fun _ => 0))) := (by rw [eA5]; exact gU_n (gne (show (9 : Nat) ≠ 8 by decide)) : A5 (9, i) = A2 (9, i)).trans f4
  have f7 : A5 (8, i) = some (h, .inr (2, [.int 0, .int 0, .null, .ref q1, .null, .int 0, .int 0, .int 0])) := by rw [eA5]; exact gU_s
  have gA5 : gF [8, 9, 10] i A A5 := by rw [eA5]; exact gF_U gA2 (by decide)
  refine lv_aload_n hx hb d_Ru_init_11 rfl (lv_at hl 0 rfl) ?_
  refine lv_iconst (v := 4) hx hb d_Ru_init_12 (by decide) ?_
  refine g_newa (atype := .int) (a0 := (4, .inl (fun _ => 0))) (N' := 4) hx hb (hts _ k_67) rfl hK.1 hP hS (10, i) (hK.1.2 0 _ rfl).2 rfl (by decide) (by decide) (by decide) (by decide) (by decide) d_Ru_init_13 (fun q8 H hP hS => ?_)
  refine W.widen (k := 2) (n := 8) (by decide) (by decide) ?_
  obtain ⟨A9, eA9⟩ : ∃ z, z = gU A5 (10, i) (q8, .inl (cI, 4, .inl (fun _ => 0))) := ⟨_, rfl⟩
  replace hP : gP D classes b A9 H := by rw [eA9]; exact hP
  have f10 : A9 (8, i) = some (h, .inr (2, [.int 0, .int 0, .null, .ref q1, .null, .int 0, .int 0, .int 0])) := (by rw [eA9]; exact gU_n (gne (show (8 : Nat) ≠ 10 by decide)) : A9 (8, i) = A5 (8, i)).trans f7
  have f11 : A9 (9, i) = some (q1, .inl (cI, 4, .inl (fun _ => 0))) := (by rw [eA9]; exact gU_n (gne (show (9 : Nat) ≠ 10 by decide)) : A9 (9, i) = A5 (9, i)).trans f6
  have f12 : A9 (10, i) = some (q8, .inl (cI, 4, .inl (fun _ => 0))) := by rw [eA9]; exact gU_s
  have gA9 : gF [8, 9, 10] i A A9 := by rw [eA9]; exact gF_U gA5 (by decide)
  refine g_putF (ty := (.array .int)) hx hb hts i_Ru t_Ru t_Ru_ok n_Ru hown hK.1 hP hS f10 rfl 4 (by decide) (hts _ k_136) (fun _ h9 => h9) rfl hnm rfl (by decide +kernel) rfl rfl (Nat.le_of_ble_eq_true rfl) d_Ru_init_15 (fun H locs hP hS => ?_)
  obtain ⟨A13, eA13⟩ : ∃ z, z = gU A9 (8, i) (h, .inr (2, [.int 0, .int 0, .null, .ref q1, .ref q8, .int 0, .int 0, .int 0])) := ⟨_, rfl⟩
  replace hP : gP D classes b A13 H := by rw [eA13]; exact hP
  have f14 : A13 (9, i) = some (q1, .inl (cI, 4, .inl (fun _ => 0))) := (by rw [eA13]; exact gU_n (gne (show (9 : Nat) ≠ 8 by decide)) : A13 (9, i) = A9 (9, i)).trans f11
  have f15 : A13 (10, i) = some (q8, .inl (cI, 4, .inl (fun _ => 0))) := (by rw [eA13]; exact gU_n (gne (show (10 : Nat) ≠ 8 by decide)) : A13 (10, i) = A9 (10, i)).trans f12
  have f16 : A13 (8, i) = some (h, .inr (2, [.int 0, .int 0, .null, .ref q1, .ref q8, .int 0, .int 0, .int 0])) := by rw [eA13]; exact gU_s
  have gA13 : gF [8, 9, 10] i A A13 := by rw [eA13]; exact gF_U gA9 (by decide)
  refine lv_aload_n hx hb d_Ru_init_18 rfl (lv_at hl 0 rfl) ?_
  refine lv_iconst (v := 0) hx hb d_Ru_init_19 (by decide) ?_
  refine g_put (ty := .int) hx hb hts i_Ru t_Ru t_Ru_ok n_Ru hown hK.1 hP hS f16 rfl 5 (by decide) (hts _ k_138) (fun _ h9 => h9) rfl (by decide +kernel) rfl rfl (Nat.le_of_ble_eq_true rfl) d_Ru_init_20 (fun H locs hP hS => ?_)
  obtain ⟨A17, eA17⟩ : ∃ z, z = gU A13 (8, i) (h, .inr (2, [.int 0, .int 0, .null, .ref q1, .ref q8, .int 0, .int 0, .int 0])) := ⟨_, rfl⟩
  replace hP : gP D classes b A17 H := by rw [eA17]; exact hP
  have f18 : A17 (9, i) = some (q1, .inl (cI, 4, .inl (fun _ => 0))) := (by rw [eA17]; exact gU_n (gne (show (9 : Nat) ≠ 8 by decide)) : A17 (9, i) = A13 (9, i)).trans f14
  have f19 : A17 (10, i) = some (q8, .inl (cI, 4, .inl (fun _ => 0))) := (by rw [eA17]; exact gU_n (gne (show (10 : Nat) ≠ 8 by decide)) : A17 (10, i) = A13 (10, i)).trans f15
  have f20 : A17 (8, i) = some (h, .inr (2, [.int 0, .int 0, .null, .ref q1, .ref q8, .int 0, .int 0, .int 0])) := by rw [eA17]; exact gU_s
  have gA17 : gF [8, 9, 10] i A A17 := by rw [eA17]; exact gF_U gA13 (by decide)
  refine lv_aload_n hx hb d_Ru_init_23 rfl (lv_at hl 0 rfl) ?_
  refine lv_iconst (v := 0) hx hb d_Ru_init_24 (by decide) ?_
  refine g_put (ty := .int) hx hb hts i_Ru t_Ru t_Ru_ok n_Ru hown hK.1 hP hS f20 rfl 6 (by decide) (hts _ k_140) (fun _ h9 => h9) rfl (by decide +kernel) rfl rfl (Nat.le_of_ble_eq_true rfl) d_Ru_init_25 (fun H locs hP hS => ?_)
  obtain ⟨A21, eA21⟩ : ∃ z, z = gU A17 (8, i) (h, .inr (2, [.int 0, .int 0, .null, .ref q1, .ref q8, .int 0, .int 0, .int 0])) := ⟨_, rfl⟩
  replace hP : gP D classes b A21 H := by rw [eA21]; exact hP
  have f22 : A21 (9, i) = some (q1, .inl (cI, 4, .inl (fun _ => 0))) := (by rw [eA21]; exact gU_n (gne (show (9 : Nat) ≠ 8 by decide)) : A21 (9, i) = A17 (9, i)).trans f18
  have f23 : A21 (10, i) = some (q8, .inl (cI, 4, .inl (fun _ => 0))) := (by rw [eA21]; exact gU_n (gne (show (10 : Nat) ≠ 8 by decide)) : A21 (10, i) = A17 (10, i)).trans f19
  have f24 : A21 (8, i) = some (h, .inr (2, [.int 0, .int 0, .null, .ref q1, .ref q8, .int 0, .int 0, .int 0])) := by rw [eA21]; exact gU_s
  have gA21 : gF [8, 9, 10] i A A21 := by rw [eA21]; exact gF_U gA17 (by decide)
  refine lv_aload_n hx hb d_Ru_init_28 rfl (lv_at hl 0 rfl) ?_
  refine lv_iconst (v := 1) hx hb d_Ru_init_29 (by decide) ?_
  refine g_put (ty := .boolean) hx hb hts i_Ru t_Ru t_Ru_ok n_Ru hown hK.1 hP hS f24 rfl 7 (by decide) (hts _ k_142) (fun _ h9 => h9) rfl (by decide +kernel) rfl rfl (Nat.le_of_ble_eq_true rfl) d_Ru_init_30 (fun H locs hP hS => ?_)
  obtain ⟨A25, eA25⟩ : ∃ z, z = gU A21 (8, i) (h, .inr (2, [.int 0, .int 0, .null, .ref q1, .ref q8, .int 0, .int 0, .int 1])) := ⟨_, rfl⟩
  replace hP : gP D classes b A25 H := by rw [eA25]; exact hP
  have f26 : A25 (9, i) = some (q1, .inl (cI, 4, .inl (fun _ => 0))) := (by rw [eA25]; exact gU_n (gne (show (9 : Nat) ≠ 8 by decide)) : A25 (9, i) = A21 (9, i)).trans f22
  have f27 : A25 (10, i) = some (q8, .inl (cI, 4, .inl (fun _ => 0))) := (by rw [eA25]; exact gU_n (gne (show (10 : Nat) ≠ 8 by decide)) : A25 (10, i) = A21 (10, i)).trans f23
  have f28 : A25 (8, i) = some (h, .inr (2, [.int 0, .int 0, .null, .ref q1, .ref q8, .int 0, .int 0, .int 1])) := by rw [eA25]; exact gU_s
  have gA25 : gF [8, 9, 10] i A A25 := by rw [eA25]; exact gF_U gA21 (by decide)
  refine lv_aload_n hx hb d_Ru_init_33 rfl (lv_at hl 0 rfl) ?_
  refine lv_iload_n hx hb d_Ru_init_34 rfl (lv_at hl 1 rfl) ?_
  refine g_putF (ty := .int) hx hb hts i_Ru t_Ru t_Ru_ok n_Ru hown hK.1 hP hS f28 rfl 0 (by decide) (hts _ k_130) (fun _ h9 => h9) rfl hnm rfl (by decide +kernel) rfl rfl (Nat.le_of_ble_eq_true rfl) d_Ru_init_35 (fun H locs hP hS => ?_)
  obtain ⟨A29, eA29⟩ : ∃ z, z = gU A25 (8, i) (h, .inr (2, [.int (nI mk), .int 0, .null, .ref q1, .ref q8, .int 0, .int 0, .int 1])) := ⟨_, rfl⟩
  replace hP : gP D classes b A29 H := by rw [eA29]; exact hP
  have f30 : A29 (9, i) = some (q1, .inl (cI, 4, .inl (fun _ => 0))) := (by rw [eA29]; exact gU_n (gne (show (9 : Nat) ≠ 8 by decide)) : A29 (9, i) = A25 (9, i)).trans f26
  have f31 : A29 (10, i) = some (q8, .inl (cI, 4, .inl (fun _ => 0))) := (by rw [eA29]; exact gU_n (gne (show (10 : Nat) ≠ 8 by decide)) : A29 (10, i) = A25 (10, i)).trans f27
  have f32 : A29 (8, i) = some (h, .inr (2, [.int (nI mk), .int 0, .null, .ref q1, .ref q8, .int 0, .int 0, .int 1])) := by rw [eA29]; exact gU_s
  have gA29 : gF [8, 9, 10] i A A29 := by rw [eA29]; exact gF_U gA25 (by decide)
  refine lv_aload_n hx hb d_Ru_init_38 rfl (lv_at hl 0 rfl) ?_
  refine lv_iload_n hx hb d_Ru_init_39 rfl (lv_at hl 2 rfl) ?_
  refine g_putF (ty := .int) hx hb hts i_Ru t_Ru t_Ru_ok n_Ru hown hK.1 hP hS f32 rfl 1 (by decide) (hts _ k_132) (fun _ h9 => h9) rfl hnm rfl (by decide +kernel) rfl rfl (Nat.le_of_ble_eq_true rfl) d_Ru_init_40 (fun H locs hP hS => ?_)
  obtain ⟨A33, eA33⟩ : ∃ z, z = gU A29 (8, i) (h, .inr (2, [.int (nI mk), .int (nI mt), .null, .ref q1, .ref q8, .int 0, .int 0, .int 1])) := ⟨_, rfl⟩
  replace hP : gP D classes b A33 H := by rw [eA33]; exact hP
  have f34 : A33 (9, i) = some (q1, .inl (cI, 4, .inl (fun _ => 0))) := (by rw [eA33]; exact gU_n (gne (show (9 : Nat) ≠ 8 by decide)) : A33 (9, i) = A29 (9, i)).trans f30
  have f35 : A33 (10, i) = some (q8, .inl (cI, 4, .inl (fun _ => 0))) := (by rw [eA33]; exact gU_n (gne (show (10 : Nat) ≠ 8 by decide)) : A33 (10, i) = A29 (10, i)).trans f31
  have f36 : A33 (8, i) = some (h, .inr (2, [.int (nI mk), .int (nI mt), .null, .ref q1, .ref q8, .int 0, .int 0, .int 1])) := by rw [eA33]; exact gU_s
  have gA33 : gF [8, 9, 10] i A A33 := by rw [eA33]; exact gF_U gA29 (by decide)
  refine lv_aload_n hx hb d_Ru_init_43 rfl (lv_at hl 0 rfl) ?_
  refine lv_aload_n hx hb d_Ru_init_44 rfl (lv_at hl 3 rfl) ?_
  refine g_putF (ty := (.object "MockBook$Matchers")) hx hb hts i_Ru t_Ru t_Ru_ok n_Ru hown hK.1 hP hS f36 rfl 2 (by decide) (hts _ k_133) (fun _ h9 => h9) rfl hnm rfl (by decide +kernel) rfl rfl (Nat.le_of_ble_eq_true rfl) d_Ru_init_45 (fun H locs hP hS => ?_)
  obtain ⟨A37, eA37⟩ : ∃ z, z = gU A33 (8, i) (h, .inr (2, [.int (nI mk), .int (nI mt), .ref hm, .ref q1, .ref q8, .int 0, .int 0, .int 1])) := ⟨_, rfl⟩
  replace hP : gP D classes b A37 H := by rw [eA37]; exact hP
  have f38 : A37 (9, i) = some (q1, .inl (cI, 4, .inl (fun _ => 0))) := (by rw [eA37]; exact gU_n (gne (show (9 : Nat) ≠ 8 by decide)) : A37 (9, i) = A33 (9, i)).trans f34
  have f39 : A37 (10, i) = some (q8, .inl (cI, 4, .inl (fun _ => 0))) := (by rw [eA37]; exact gU_n (gne (show (10 : Nat) ≠ 8 by decide)) : A37 (10, i) = A33 (10, i)).trans f35
  have f40 : A37 (8, i) = some (h, .inr (2, [.int (nI mk), .int (nI mt), .ref hm, .ref q1, .ref q8, .int 0, .int 0, .int 1])) := by rw [eA37]; exact gU_s
  have gA37 : gF [8, 9, 10] i A A37 := by rw [eA37]; exact gF_U gA33 (by decide)
  refine W.widen (k := 2) (n := 8) (by decide) (by decide) ?_
  exact W.vret hx hb hr (fun t ht _ => ⟨⟨A37, rfl, ⟨⟨q1, q8, _, _, f40, f38, f39, Nat.zero_le _, fun j hj => by cases j <;> exact ⟨rfl, rfl⟩⟩, gA37⟩, show gP D classes b A37 t.heap by rw [ht]; exact hP⟩, hS.F ht⟩) hS.2.2 d_Ru_init_48
set_option maxHeartbeats 4000000 in
set_option maxRecDepth 100000 in
theorem c_Ru_addAction (l : Launch) {D : va_G} {cI cZ cO cL : ClassId} {b e0 : Nat} {A : gW} {i h hm : Nat} {r : Ru} (hr0 : rRu cI A i h hm r) (h4 : (uAc r).length < 4) (k v : Int32) : Met l y_Ru_addAction (Cond.code y_Ru_addAction b_Ru_addAction 3 none :: TT) ({ frames := 0, cells := 0, slots := 0, locals := 0 }) (va_Pc [.ref h, .int k, .int v] (gI D [(cI, .int), (cZ, .boolean), (cO, .object "java/lang/Object"), (cL, .long)] b e0 A)) (va_Qv (fun A2 : gW => rRu cI A2 i h hm (uMk r, uMt r, uMs r, uAc r ++ [(k, v)], uUs r, uLv r) ∧ gF [8, 9, 10] i A A2) (fun A2 t => gP D classes b A2 t.heap) (fun q => b ≤ q)) 0 0 (fun q => b ≤ q) := by
  refine Met.ofG (own := R_Ru) (by decide +kernel) rfl (Nat.le_of_ble_eq_true rfl) ?_
  intro p e s m below meth c ls hx hb hr hlk hml hown hnm hts hI hl
  have hl : lv_has ls 3 [(0, .ref h), (1, .int k), (2, .int v)] := hl
  have hS : gS b s.heap s.heap [] := va_S.rf
  obtain ⟨hP, hK⟩ := hI
  obtain ⟨hk, hv, fk, fv, fR, fK, fV, hn4, hac⟩ := id hr0
  refine lv_aload_n hx hb d_Ru_addAction_0 rfl (lv_at hl 0 rfl) ?_
  refine g_get hx hb hts i_Ru hown hK.1 hP fR rfl 5 (by decide) (hts _ k_138) (fun _ h9 => h9) rfl d_Ru_addAction_1 ?_
  refine lv_iconst (v := 4) hx hb d_Ru_addAction_4 (by decide) ?_
  refine lv_icmp_ge (tgt := 38) hx hb d_Ru_addAction_5 (by decide) (fun h9 => absurd h9 (nI_ge (show (uAc r).length < 4 by omega) (by decide))) (fun _ => ?_)
  refine lv_aload_n hx hb d_Ru_addAction_8 rfl (lv_at hl 0 rfl) ?_
  refine g_get hx hb hts i_Ru hown hK.1 hP fR rfl 3 (by decide) (hts _ k_134) (fun _ h9 => h9) rfl d_Ru_addAction_9 ?_
  refine lv_aload_n hx hb d_Ru_addAction_12 rfl (lv_at hl 0 rfl) ?_
  refine g_get hx hb hts i_Ru hown hK.1 hP fR rfl 5 (by decide) (hts _ k_138) (fun _ h9 => h9) rfl d_Ru_addAction_13 ?_
  refine lv_iload_n hx hb d_Ru_addAction_16 rfl (lv_at hl 1 rfl) ?_
  refine g_iast (k := (uAc r).length) hx hb hK.1 hP hS 0 fK rfl (vp_in_nI (show (uAc r).length < 4 by omega) (by omega)) (nI_clamp (show (uAc r).length < 2 ^ 31 by omega)) d_Ru_addAction_17 (fun H locs hP hS => ?_)
  obtain ⟨A2, eA2⟩ : ∃ z, z = gU A (9, i) (hk, .inl (cI, 4, .inl (upd fk ((uAc r).length) (k)))) := ⟨_, rfl⟩
  replace hP : gP D classes b A2 H := by rw [eA2]; exact hP
  have f3 : A2 (8, i) = some (h, .inr (2, [.int (nI (uMk r)), .int (nI (uMt r)), .ref hm, .ref hk, .ref hv, .int (nI (uAc r).length), .int (nI (uUs r)), .int (bI (uLv r))])) := (by rw [eA2]; exact gU_n (gne (show (8 : Nat) ≠ 9 by decide)) : A2 (8, i) = A (8, i)).trans fR
  have f4 : A2 (10, i) = some (hv, .inl (cI, 4, .inl fv)) := (by rw [eA2]; exact gU_n (gne (show (10 : Nat) ≠ 9 by decide)) : A2 (10, i) = A (10, i)).trans fV
  have f5 : A2 (9, i) = some (hk, .inl (cI, 4, .inl (upd fk ((uAc r).length) (k)))) := by rw [eA2]; exact gU_s
  have gA2 : gF [8, 9, 10] i A A2 := by rw [eA2]; exact gF_U gF.rf (by decide)
  refine lv_aload_n hx hb d_Ru_addAction_18 rfl (lv_at hl 0 rfl) ?_
  refine g_get hx hb hts i_Ru hown hK.1 hP f3 rfl 4 (by decide) (hts _ k_136) (fun _ h9 => h9) rfl d_Ru_addAction_19 ?_
  refine lv_aload_n hx hb d_Ru_addAction_22 rfl (lv_at hl 0 rfl) ?_
  refine g_get hx hb hts i_Ru hown hK.1 hP f3 rfl 5 (by decide) (hts _ k_138) (fun _ h9 => h9) rfl d_Ru_addAction_23 ?_
  refine lv_iload_n hx hb d_Ru_addAction_26 rfl (lv_at hl 2 rfl) ?_
  refine g_iast (k := (uAc r).length) hx hb hK.1 hP hS 0 f4 rfl (vp_in_nI (show (uAc r).length < 4 by omega) (by omega)) (nI_clamp (show (uAc r).length < 2 ^ 31 by omega)) d_Ru_addAction_27 (fun H locs hP hS => ?_)
  obtain ⟨A6, eA6⟩ : ∃ z, z = gU A2 (10, i) (hv, .inl (cI, 4, .inl (upd fv ((uAc r).length) (v)))) := ⟨_, rfl⟩
  replace hP : gP D classes b A6 H := by rw [eA6]; exact hP
  have f7 : A6 (8, i) = some (h, .inr (2, [.int (nI (uMk r)), .int (nI (uMt r)), .ref hm, .ref hk, .ref hv, .int (nI (uAc r).length), .int (nI (uUs r)), .int (bI (uLv r))])) := (by rw [eA6]; exact gU_n (gne (show (8 : Nat) ≠ 10 by decide)) : A6 (8, i) = A2 (8, i)).trans f3
  have f8 : A6 (9, i) = some (hk, .inl (cI, 4, .inl (upd fk ((uAc r).length) (k)))) := (by rw [eA6]; exact gU_n (gne (show (9 : Nat) ≠ 10 by decide)) : A6 (9, i) = A2 (9, i)).trans f5
  have f9 : A6 (10, i) = some (hv, .inl (cI, 4, .inl (upd fv ((uAc r).length) (v)))) := by rw [eA6]; exact gU_s
  have gA6 : gF [8, 9, 10] i A A6 := by rw [eA6]; exact gF_U gA2 (by decide)
  refine lv_aload_n hx hb d_Ru_addAction_28 rfl (lv_at hl 0 rfl) ?_
  refine lv_dup hx hb d_Ru_addAction_29 rfl ?_
  refine g_get hx hb hts i_Ru hown hK.1 hP f7 rfl 5 (by decide) (hts _ k_138) (fun _ h9 => h9) rfl d_Ru_addAction_30 ?_
  refine lv_iconst (v := 1) hx hb d_Ru_addAction_33 (by decide) ?_
  refine lv_iadd hx hb d_Ru_addAction_34 ?_
  refine g_put (ty := .int) hx hb hts i_Ru t_Ru t_Ru_ok n_Ru hown hK.1 hP hS f7 rfl 5 (by decide) (hts _ k_138) (fun _ h9 => h9) rfl (by decide +kernel) rfl rfl (Nat.le_of_ble_eq_true rfl) d_Ru_addAction_35 (fun H locs hP hS => ?_)
  obtain ⟨A10, eA10⟩ : ∃ z, z = gU A6 (8, i) (h, .inr (2, [.int (nI (uMk r)), .int (nI (uMt r)), .ref hm, .ref hk, .ref hv, .int ((nI (uAc r).length) + 1), .int (nI (uUs r)), .int (bI (uLv r))])) := ⟨_, rfl⟩
  replace hP : gP D classes b A10 H := by rw [eA10]; exact hP
  have f11 : A10 (9, i) = some (hk, .inl (cI, 4, .inl (upd fk ((uAc r).length) (k)))) := (by rw [eA10]; exact gU_n (gne (show (9 : Nat) ≠ 8 by decide)) : A10 (9, i) = A6 (9, i)).trans f8
  have f12 : A10 (10, i) = some (hv, .inl (cI, 4, .inl (upd fv ((uAc r).length) (v)))) := (by rw [eA10]; exact gU_n (gne (show (10 : Nat) ≠ 8 by decide)) : A10 (10, i) = A6 (10, i)).trans f9
  have f13 : A10 (8, i) = some (h, .inr (2, [.int (nI (uMk r)), .int (nI (uMt r)), .ref hm, .ref hk, .ref hv, .int ((nI (uAc r).length) + 1), .int (nI (uUs r)), .int (bI (uLv r))])) := by rw [eA10]; exact gU_s
  have gA10 : gF [8, 9, 10] i A A10 := by rw [eA10]; exact gF_U gA6 (by decide)
  refine W.widen (k := 0) (n := 0) (by decide) (by decide) ?_
  exact W.vret hx hb hr (fun t ht _ => ⟨⟨A10, rfl, ⟨⟨hk, hv, _, _, (by rw [len1]; exact f13), f11, f12, (show (uAc r ++ [(k, v)]).length ≤ 4 by simp; omega), fun j hj => snocA (fun j hj => hac j (Or.inl hj)) (show j < (uAc r ++ [(k, v)]).length by have hj2 : j < (uAc r ++ [(k, v)]).length ∨ j = 0 := hj; simp only [List.length_append, List.length_singleton] at hj2 ⊢; omega)⟩, gA10⟩, show gP D classes b A10 t.heap by rw [ht]; exact hP⟩, hS.F ht⟩) hS.2.2 d_Ru_addAction_38
