theorem mArr_or {k : Nat} (h : mArr k = true) : k = 0 ∨ k = 1 ∨ k = 3 ∨ k = 4 ∨ k = 5 ∨ k = 6 ∨ k = 7 ∨ k = 8 ∨ k = 9 ∨ k = 10 ∨ k = 12 ∨ k = 13 ∨ k = 14 ∨ k = 15 ∨ k = 16 ∨ k = 17 ∨ k = 18 ∨ k = 20 ∨ k = 21 := by
  have h22 : k < 22 := by
    unfold mArr at h
    split at h
    all_goals first | (simp at h; done) | simpa using h
  rcases (by omega : k = 0 ∨ k = 1 ∨ k = 2 ∨ k = 3 ∨ k = 4 ∨ k = 5 ∨ k = 6 ∨ k = 7 ∨ k = 8 ∨ k = 9 ∨ k = 10 ∨ k = 11 ∨ k = 12 ∨ k = 13 ∨ k = 14 ∨ k = 15 ∨ k = 16 ∨ k = 17 ∨ k = 18 ∨ k = 19 ∨ k = 20 ∨ k = 21) with rfl | rfl | rfl | rfl | rfl | rfl | rfl | rfl | rfl | rfl | rfl | rfl | rfl | rfl | rfl | rfl | rfl | rfl | rfl | rfl | rfl | rfl
  · omega
  · omega
  · cases h
  · omega
  · omega
  · omega
  · omega
  · omega
  · omega
  · omega
  · omega
  · cases h
  · omega
  · omega
  · omega
  · omega
  · omega
  · omega
  · omega
  · cases h
  · omega
  · omega
theorem rMM.mk0 {cI cZ cL : ClassId} {A : gW} {h q0 q1 q3 q4 q5 q6 q7 q8 q9 q10 q12 q13 q14 q15 q16 q17 q18 q19 q20 q21 : Nat} (f : A (20, 0) = some (h, .inr (5, [.ref q0, .ref q1, .int 0, .ref q3, .ref q4, .ref q5, .ref q6, .ref q7, .ref q8, .ref q9, .ref q10, .int 0, .ref q12, .ref q13, .ref q14, .ref q15, .ref q16, .ref q17, .ref q18, .ref q19, .ref q20, .ref q21, .int 0, .int (-1)]))) (f0 : A (21, 0) = some (q0, .inl (cI, 3, .inl (fun _ => 0)))) (f1 : A (22, 0) = some (q1, .inl (cI, 3, .inl (fun _ => 0)))) (f3 : A (24, 0) = some (q3, .inl (cI, 24, .inl (fun _ => 0)))) (f4 : A (25, 0) = some (q4, .inl (cI, 24, .inl (fun _ => 0)))) (f5 : A (26, 0) = some (q5, .inl (cZ, 24, .inl (fun _ => 0)))) (f6 : A (27, 0) = some (q6, .inl (cI, 72, .inl (fun _ => 0)))) (f7 : A (28, 0) = some (q7, .inl (cI, 72, .inl (fun _ => 0)))) (f8 : A (29, 0) = some (q8, .inl (cI, 96, .inl (fun _ => 0)))) (f9 : A (30, 0) = some (q9, .inl (cI, 96, .inl (fun _ => 0)))) (f10 : A (31, 0) = some (q10, .inl (cI, 24, .inl (fun _ => 0)))) (f12 : A (33, 0) = some (q12, .inl (cZ, 4, .inl (fun _ => 0)))) (f13 : A (34, 0) = some (q13, .inl (cI, 160, .inl (fun _ => 0)))) (f14 : A (35, 0) = some (q14, .inl (cI, 160, .inl (fun _ => 0)))) (f15 : A (36, 0) = some (q15, .inl (cI, 480, .inl (fun _ => 0)))) (f16 : A (37, 0) = some (q16, .inl (cI, 160, .inl (fun _ => 0)))) (f17 : A (38, 0) = some (q17, .inl (cI, 160, .inl (fun _ => 0)))) (f18 : A (39, 0) = some (q18, .inl (cI, 160, .inl (fun _ => 0)))) (f20 : A (41, 0) = some (q20, .inl (cZ, 160, .inl (fun _ => 0)))) (f21 : A (42, 0) = some (q21, .inl (cZ, 160, .inl (fun _ => 0)))) (f19 : A (40, 0) = some (q19, .inl (cL, 160, .inr (.inl (fun _ => 0))))) : rMM cI cZ cL A h (fun k => ([q0, q1, 0, q3, q4, q5, q6, q7, q8, q9, q10, 0, q12, q13, q14, q15, q16, q17, q18, q19, q20, q21, 0, 0] : List Nat).getD k 0) (fun _ _ => 0) (fun _ => 0) 0 0 0 0 := by
  refine ⟨?_, fun k hk => ?_, f19⟩
  · show A (20, 0) = some (h, .inr (5, [.ref q0, .ref q1, .int (nI 0), .ref q3, .ref q4, .ref q5, .ref q6, .ref q7, .ref q8, .ref q9, .ref q10, .int (nI 0), .ref q12, .ref q13, .ref q14, .ref q15, .ref q16, .ref q17, .ref q18, .ref q19, .ref q20, .ref q21, .int (nI 0), .int (nI 0 - 1)]))
    rw [show nI 0 - 1 = (-1 : Int32) by decide, nI_0]
    exact f
  · rcases mArr_or hk with rfl | rfl | rfl | rfl | rfl | rfl | rfl | rfl | rfl | rfl | rfl | rfl | rfl | rfl | rfl | rfl | rfl | rfl | rfl
    · exact f0
    · exact f1
    · exact f3
    · exact f4
    · exact f5
    · exact f6
    · exact f7
    · exact f8
    · exact f9
    · exact f10
    · exact f12
    · exact f13
    · exact f14
    · exact f15
    · exact f16
    · exact f17
    · exact f18
    · exact f20
    · exact f21
set_option maxHeartbeats 4000000 in
set_option maxRecDepth 100000 in
theorem c_MM_init (l : Launch) {D : va_G} {cI cZ cO cL : ClassId} {b e0 : Nat} {A : gW} {h : Nat} (f0 : A (20, 0) = some (h, .inr (5, [.null, .null, .int 0, .null, .null, .null, .null, .null, .null, .null, .null, .int 0, .null, .null, .null, .null, .null, .null, .null, .null, .null, .null, .int 0, .int 0]))) : Met l y_MM_init (Cond.code y_MM_init b_MM_init 1 none :: TT) ({ frames := 1, cells := 20, slots := 2202, locals := 12 }) (va_Pc [.ref h] (gI D [(cI, .int), (cZ, .boolean), (cO, .object "java/lang/Object"), (cL, .long)] b e0 A)) (va_Qv (fun A2 : gW => rMo cI cZ cL A2 h ([], [], fun _ => false, [], 0) ∧ gL A A2) (fun A2 t => gP D classes b A2 t.heap) (fun q => b ≤ q)) 20 2202 (fun q => b ≤ q) := by
  refine Met.ofG (own := R_MM) (by decide +kernel) rfl (Nat.le_of_ble_eq_true rfl) ?_
  intro p e s m below meth c ls hx hb hr hlk hml hown hnm hts hI hl
  have hl : lv_has ls 1 [(0, .ref h)] := hl
  have hS : gS b s.heap s.heap [] := va_S.rf
  obtain ⟨hP, hK⟩ := hI
  refine lv_aload_n hx hb d_MM_init_0 rfl (lv_at hl 0 rfl) ?_
  refine W.objInit hx hb hown (hts _ k_442) (hts _ k_21) (hts _ k_22) rfl (by rw [hml]; exact hl.1) rfl d_MM_init_1 (Nat.le_of_ble_eq_true rfl) (Nat.le_of_ble_eq_true rfl) ?_
  refine W.eq (g2 := F0 m 4 ls []) rfl ?_
  refine lv_aload_n hx hb d_MM_init_4 rfl (lv_at hl 0 rfl) ?_
  refine lv_iconst (v := 3) hx hb d_MM_init_5 (by decide) ?_
  refine g_newa (atype := .int) (a0 := (3, .inl (fun _ => 0))) (N' := 3) hx hb (hts _ k_67) rfl hK.1 hP hS (21, 0) (hK.1.2 0 _ rfl).2 rfl (by decide) (by decide) (by decide) (by decide) (by decide) d_MM_init_6 (fun q1 H hP hS => ?_)
  refine W.widen (k := 1) (n := 3) (by decide) (by decide) ?_
  obtain ⟨A2, eA2⟩ : ∃ z, z = gU A (21, 0) (q1, .inl (cI, 3, .inl (fun _ => 0))) := ⟨_, rfl⟩
  replace hP : gP D classes b A2 H := by rw [eA2]; exact hP
  have f3 : A2 (20, 0) = some (h, .inr (5, [.null, .null, .int 0, .null, .null, .null, .null, .null, .null, .null, .null, .int 0, .null, .null, .null, .null, .null, .null, .null, .null, .null, .null, .int 0, .int 0])) := (by rw [eA2]; exact gU_n (gne (show (20 : Nat) ≠ 21 by decide)) : A2 (20, 0) = A (20, 0)).trans f0
  have f4 : A2 (21, 0) = some (q1, .inl (cI, 3, .inl (fun _ => 0))) := by rw [eA2]; exact gU_s
  have glA2 : gL A A2 := by rw [eA2]; exact gL.rf.U (by decide)
  refine g_putF (ty := (.array .int)) (v := .ref q1) hx hb hts i_MM t_MM t_MM_ok n_MM hown hK.1 hP hS f3 rfl 0 (by decide) (hts _ k_443) (fun _ h9 => h9) rfl hnm rfl (by decide +kernel) rfl rfl (Nat.le_of_ble_eq_true rfl) d_MM_init_8 (fun H locs hP hS => ?_)
  obtain ⟨A5, eA5⟩ : ∃ z, z = gU A2 (20, 0) (h, .inr (5, [.ref q1, .null, .int 0, .null, .null, .null, .null, .null, .null, .null, .null, .int 0, .null, .null, .null, .null, .null, .null, .null, .null, .null, .null, .int 0, .int 0])) := ⟨_, rfl⟩
  replace hP : gP D classes b A5 H := by rw [eA5]; exact hP
  have f6 : A5 (21, 0) = some (q1, .inl (cI, 3, .inl (fun _ => 0))) := (by rw [eA5]; exact gU_n (gne (show (21 : Nat) ≠ 20 by decide)) : A5 (21, 0) = A2 (21, 0)).trans f4
  have f7 : A5 (20, 0) = some (h, .inr (5, [.ref q1, .null, .int 0, .null, .null, .null, .null, .null, .null, .null, .null, .int 0, .null, .null, .null, .null, .null, .null, .null, .null, .null, .null, .int 0, .int 0])) := by rw [eA5]; exact gU_s
  have glA5 : gL A A5 := by rw [eA5]; exact glA2.U (by decide)
  refine lv_aload_n hx hb d_MM_init_11 rfl (lv_at hl 0 rfl) ?_
  refine lv_iconst (v := 3) hx hb d_MM_init_12 (by decide) ?_
  refine g_newa (atype := .int) (a0 := (3, .inl (fun _ => 0))) (N' := 3) hx hb (hts _ k_67) rfl hK.1 hP hS (22, 0) (hK.1.2 0 _ rfl).2 rfl (by decide) (by decide) (by decide) (by decide) (by decide) d_MM_init_13 (fun q8 H hP hS => ?_)
  refine W.widen (k := 2) (n := 6) (by decide) (by decide) ?_
  obtain ⟨A9, eA9⟩ : ∃ z, z = gU A5 (22, 0) (q8, .inl (cI, 3, .inl (fun _ => 0))) := ⟨_, rfl⟩
  replace hP : gP D classes b A9 H := by rw [eA9]; exact hP
  have f10 : A9 (20, 0) = some (h, .inr (5, [.ref q1, .null, .int 0, .null, .null, .null, .null, .null, .null, .null, .null, .int 0, .null, .null, .null, .null, .null, .null, .null, .null, .null, .null, .int 0, .int 0])) := (by rw [eA9]; exact gU_n (gne (show (20 : Nat) ≠ 22 by decide)) : A9 (20, 0) = A5 (20, 0)).trans f7
  have f11 : A9 (21, 0) = some (q1, .inl (cI, 3, .inl (fun _ => 0))) := (by rw [eA9]; exact gU_n (gne (show (21 : Nat) ≠ 22 by decide)) : A9 (21, 0) = A5 (21, 0)).trans f6
  have f12 : A9 (22, 0) = some (q8, .inl (cI, 3, .inl (fun _ => 0))) := by rw [eA9]; exact gU_s
  have glA9 : gL A A9 := by rw [eA9]; exact glA5.U (by decide)
  refine g_putF (ty := (.array .int)) (v := .ref q8) hx hb hts i_MM t_MM t_MM_ok n_MM hown hK.1 hP hS f10 rfl 1 (by decide) (hts _ k_444) (fun _ h9 => h9) rfl hnm rfl (by decide +kernel) rfl rfl (Nat.le_of_ble_eq_true rfl) d_MM_init_15 (fun H locs hP hS => ?_)
  obtain ⟨A13, eA13⟩ : ∃ z, z = gU A9 (20, 0) (h, .inr (5, [.ref q1, .ref q8, .int 0, .null, .null, .null, .null, .null, .null, .null, .null, .int 0, .null, .null, .null, .null, .null, .null, .null, .null, .null, .null, .int 0, .int 0])) := ⟨_, rfl⟩
  replace hP : gP D classes b A13 H := by rw [eA13]; exact hP
  have f14 : A13 (21, 0) = some (q1, .inl (cI, 3, .inl (fun _ => 0))) := (by rw [eA13]; exact gU_n (gne (show (21 : Nat) ≠ 20 by decide)) : A13 (21, 0) = A9 (21, 0)).trans f11
  have f15 : A13 (22, 0) = some (q8, .inl (cI, 3, .inl (fun _ => 0))) := (by rw [eA13]; exact gU_n (gne (show (22 : Nat) ≠ 20 by decide)) : A13 (22, 0) = A9 (22, 0)).trans f12
  have f16 : A13 (20, 0) = some (h, .inr (5, [.ref q1, .ref q8, .int 0, .null, .null, .null, .null, .null, .null, .null, .null, .int 0, .null, .null, .null, .null, .null, .null, .null, .null, .null, .null, .int 0, .int 0])) := by rw [eA13]; exact gU_s
  have glA13 : gL A A13 := by rw [eA13]; exact glA9.U (by decide)
  refine lv_aload_n hx hb d_MM_init_18 rfl (lv_at hl 0 rfl) ?_
  refine lv_bipush (v := 24) hx hb d_MM_init_19 (by decide) ?_
  refine g_newa (atype := .int) (a0 := (24, .inl (fun _ => 0))) (N' := 24) hx hb (hts _ k_67) rfl hK.1 hP hS (24, 0) (hK.1.2 0 _ rfl).2 rfl (by decide) (by decide) (by decide) (by decide) (by decide) d_MM_init_21 (fun q17 H hP hS => ?_)
  refine W.widen (k := 3) (n := 30) (by decide) (by decide) ?_
  obtain ⟨A18, eA18⟩ : ∃ z, z = gU A13 (24, 0) (q17, .inl (cI, 24, .inl (fun _ => 0))) := ⟨_, rfl⟩
  replace hP : gP D classes b A18 H := by rw [eA18]; exact hP
  have f19 : A18 (20, 0) = some (h, .inr (5, [.ref q1, .ref q8, .int 0, .null, .null, .null, .null, .null, .null, .null, .null, .int 0, .null, .null, .null, .null, .null, .null, .null, .null, .null, .null, .int 0, .int 0])) := (by rw [eA18]; exact gU_n (gne (show (20 : Nat) ≠ 24 by decide)) : A18 (20, 0) = A13 (20, 0)).trans f16
  have f20 : A18 (21, 0) = some (q1, .inl (cI, 3, .inl (fun _ => 0))) := (by rw [eA18]; exact gU_n (gne (show (21 : Nat) ≠ 24 by decide)) : A18 (21, 0) = A13 (21, 0)).trans f14
  have f21 : A18 (22, 0) = some (q8, .inl (cI, 3, .inl (fun _ => 0))) := (by rw [eA18]; exact gU_n (gne (show (22 : Nat) ≠ 24 by decide)) : A18 (22, 0) = A13 (22, 0)).trans f15
  have f22 : A18 (24, 0) = some (q17, .inl (cI, 24, .inl (fun _ => 0))) := by rw [eA18]; exact gU_s
  have glA18 : gL A A18 := by rw [eA18]; exact glA13.U (by decide)
  refine g_putF (ty := (.array .int)) (v := .ref q17) hx hb hts i_MM t_MM t_MM_ok n_MM hown hK.1 hP hS f19 rfl 3 (by decide) (hts _ k_446) (fun _ h9 => h9) rfl hnm rfl (by decide +kernel) rfl rfl (Nat.le_of_ble_eq_true rfl) d_MM_init_23 (fun H locs hP hS => ?_)
  obtain ⟨A23, eA23⟩ : ∃ z, z = gU A18 (20, 0) (h, .inr (5, [.ref q1, .ref q8, .int 0, .ref q17, .null, .null, .null, .null, .null, .null, .null, .int 0, .null, .null, .null, .null, .null, .null, .null, .null, .null, .null, .int 0, .int 0])) := ⟨_, rfl⟩
  replace hP : gP D classes b A23 H := by rw [eA23]; exact hP
  have f24 : A23 (21, 0) = some (q1, .inl (cI, 3, .inl (fun _ => 0))) := (by rw [eA23]; exact gU_n (gne (show (21 : Nat) ≠ 20 by decide)) : A23 (21, 0) = A18 (21, 0)).trans f20
  have f25 : A23 (22, 0) = some (q8, .inl (cI, 3, .inl (fun _ => 0))) := (by rw [eA23]; exact gU_n (gne (show (22 : Nat) ≠ 20 by decide)) : A23 (22, 0) = A18 (22, 0)).trans f21
  have f26 : A23 (24, 0) = some (q17, .inl (cI, 24, .inl (fun _ => 0))) := (by rw [eA23]; exact gU_n (gne (show (24 : Nat) ≠ 20 by decide)) : A23 (24, 0) = A18 (24, 0)).trans f22
  have f27 : A23 (20, 0) = some (h, .inr (5, [.ref q1, .ref q8, .int 0, .ref q17, .null, .null, .null, .null, .null, .null, .null, .int 0, .null, .null, .null, .null, .null, .null, .null, .null, .null, .null, .int 0, .int 0])) := by rw [eA23]; exact gU_s
  have glA23 : gL A A23 := by rw [eA23]; exact glA18.U (by decide)
  refine lv_aload_n hx hb d_MM_init_26 rfl (lv_at hl 0 rfl) ?_
  refine lv_bipush (v := 24) hx hb d_MM_init_27 (by decide) ?_
  refine g_newa (atype := .int) (a0 := (24, .inl (fun _ => 0))) (N' := 24) hx hb (hts _ k_67) rfl hK.1 hP hS (25, 0) (hK.1.2 0 _ rfl).2 rfl (by decide) (by decide) (by decide) (by decide) (by decide) d_MM_init_29 (fun q28 H hP hS => ?_)
  refine W.widen (k := 4) (n := 54) (by decide) (by decide) ?_
  obtain ⟨A29, eA29⟩ : ∃ z, z = gU A23 (25, 0) (q28, .inl (cI, 24, .inl (fun _ => 0))) := ⟨_, rfl⟩
  replace hP : gP D classes b A29 H := by rw [eA29]; exact hP
  have f30 : A29 (20, 0) = some (h, .inr (5, [.ref q1, .ref q8, .int 0, .ref q17, .null, .null, .null, .null, .null, .null, .null, .int 0, .null, .null, .null, .null, .null, .null, .null, .null, .null, .null, .int 0, .int 0])) := (by rw [eA29]; exact gU_n (gne (show (20 : Nat) ≠ 25 by decide)) : A29 (20, 0) = A23 (20, 0)).trans f27
  have f31 : A29 (21, 0) = some (q1, .inl (cI, 3, .inl (fun _ => 0))) := (by rw [eA29]; exact gU_n (gne (show (21 : Nat) ≠ 25 by decide)) : A29 (21, 0) = A23 (21, 0)).trans f24
  have f32 : A29 (22, 0) = some (q8, .inl (cI, 3, .inl (fun _ => 0))) := (by rw [eA29]; exact gU_n (gne (show (22 : Nat) ≠ 25 by decide)) : A29 (22, 0) = A23 (22, 0)).trans f25
  have f33 : A29 (24, 0) = some (q17, .inl (cI, 24, .inl (fun _ => 0))) := (by rw [eA29]; exact gU_n (gne (show (24 : Nat) ≠ 25 by decide)) : A29 (24, 0) = A23 (24, 0)).trans f26
  have f34 : A29 (25, 0) = some (q28, .inl (cI, 24, .inl (fun _ => 0))) := by rw [eA29]; exact gU_s
  have glA29 : gL A A29 := by rw [eA29]; exact glA23.U (by decide)
  refine g_putF (ty := (.array .int)) (v := .ref q28) hx hb hts i_MM t_MM t_MM_ok n_MM hown hK.1 hP hS f30 rfl 4 (by decide) (hts _ k_447) (fun _ h9 => h9) rfl hnm rfl (by decide +kernel) rfl rfl (Nat.le_of_ble_eq_true rfl) d_MM_init_31 (fun H locs hP hS => ?_)
  obtain ⟨A35, eA35⟩ : ∃ z, z = gU A29 (20, 0) (h, .inr (5, [.ref q1, .ref q8, .int 0, .ref q17, .ref q28, .null, .null, .null, .null, .null, .null, .int 0, .null, .null, .null, .null, .null, .null, .null, .null, .null, .null, .int 0, .int 0])) := ⟨_, rfl⟩
  replace hP : gP D classes b A35 H := by rw [eA35]; exact hP
  have f36 : A35 (21, 0) = some (q1, .inl (cI, 3, .inl (fun _ => 0))) := (by rw [eA35]; exact gU_n (gne (show (21 : Nat) ≠ 20 by decide)) : A35 (21, 0) = A29 (21, 0)).trans f31
  have f37 : A35 (22, 0) = some (q8, .inl (cI, 3, .inl (fun _ => 0))) := (by rw [eA35]; exact gU_n (gne (show (22 : Nat) ≠ 20 by decide)) : A35 (22, 0) = A29 (22, 0)).trans f32
  have f38 : A35 (24, 0) = some (q17, .inl (cI, 24, .inl (fun _ => 0))) := (by rw [eA35]; exact gU_n (gne (show (24 : Nat) ≠ 20 by decide)) : A35 (24, 0) = A29 (24, 0)).trans f33
  have f39 : A35 (25, 0) = some (q28, .inl (cI, 24, .inl (fun _ => 0))) := (by rw [eA35]; exact gU_n (gne (show (25 : Nat) ≠ 20 by decide)) : A35 (25, 0) = A29 (25, 0)).trans f34
  have f40 : A35 (20, 0) = some (h, .inr (5, [.ref q1, .ref q8, .int 0, .ref q17, .ref q28, .null, .null, .null, .null, .null, .null, .int 0, .null, .null, .null, .null, .null, .null, .null, .null, .null, .null, .int 0, .int 0])) := by rw [eA35]; exact gU_s
  have glA35 : gL A A35 := by rw [eA35]; exact glA29.U (by decide)
  refine lv_aload_n hx hb d_MM_init_34 rfl (lv_at hl 0 rfl) ?_
  refine lv_bipush (v := 24) hx hb d_MM_init_35 (by decide) ?_
  refine g_newa (atype := .boolean) (a0 := (24, .inl (fun _ => 0))) (N' := 24) hx hb (hts _ k_66) rfl hK.1 hP hS (26, 0) (hK.1.2 1 _ rfl).2 rfl (by decide) (by decide) (by decide) (by decide) (by decide) d_MM_init_37 (fun q41 H hP hS => ?_)
  refine W.widen (k := 5) (n := 78) (by decide) (by decide) ?_
  obtain ⟨A42, eA42⟩ : ∃ z, z = gU A35 (26, 0) (q41, .inl (cZ, 24, .inl (fun _ => 0))) := ⟨_, rfl⟩
  replace hP : gP D classes b A42 H := by rw [eA42]; exact hP
  have f43 : A42 (20, 0) = some (h, .inr (5, [.ref q1, .ref q8, .int 0, .ref q17, .ref q28, .null, .null, .null, .null, .null, .null, .int 0, .null, .null, .null, .null, .null, .null, .null, .null, .null, .null, .int 0, .int 0])) := (by rw [eA42]; exact gU_n (gne (show (20 : Nat) ≠ 26 by decide)) : A42 (20, 0) = A35 (20, 0)).trans f40
  have f44 : A42 (21, 0) = some (q1, .inl (cI, 3, .inl (fun _ => 0))) := (by rw [eA42]; exact gU_n (gne (show (21 : Nat) ≠ 26 by decide)) : A42 (21, 0) = A35 (21, 0)).trans f36
  have f45 : A42 (22, 0) = some (q8, .inl (cI, 3, .inl (fun _ => 0))) := (by rw [eA42]; exact gU_n (gne (show (22 : Nat) ≠ 26 by decide)) : A42 (22, 0) = A35 (22, 0)).trans f37
  have f46 : A42 (24, 0) = some (q17, .inl (cI, 24, .inl (fun _ => 0))) := (by rw [eA42]; exact gU_n (gne (show (24 : Nat) ≠ 26 by decide)) : A42 (24, 0) = A35 (24, 0)).trans f38
  have f47 : A42 (25, 0) = some (q28, .inl (cI, 24, .inl (fun _ => 0))) := (by rw [eA42]; exact gU_n (gne (show (25 : Nat) ≠ 26 by decide)) : A42 (25, 0) = A35 (25, 0)).trans f39
  have f48 : A42 (26, 0) = some (q41, .inl (cZ, 24, .inl (fun _ => 0))) := by rw [eA42]; exact gU_s
  have glA42 : gL A A42 := by rw [eA42]; exact glA35.U (by decide)
  refine g_putF (ty := (.array .boolean)) (v := .ref q41) hx hb hts i_MM t_MM t_MM_ok n_MM hown hK.1 hP hS f43 rfl 5 (by decide) (hts _ k_448) (fun _ h9 => h9) rfl hnm rfl (by decide +kernel) rfl rfl (Nat.le_of_ble_eq_true rfl) d_MM_init_39 (fun H locs hP hS => ?_)
  obtain ⟨A49, eA49⟩ : ∃ z, z = gU A42 (20, 0) (h, .inr (5, [.ref q1, .ref q8, .int 0, .ref q17, .ref q28, .ref q41, .null, .null, .null, .null, .null, .int 0, .null, .null, .null, .null, .null, .null, .null, .null, .null, .null, .int 0, .int 0])) := ⟨_, rfl⟩
  replace hP : gP D classes b A49 H := by rw [eA49]; exact hP
  have f50 : A49 (21, 0) = some (q1, .inl (cI, 3, .inl (fun _ => 0))) := (by rw [eA49]; exact gU_n (gne (show (21 : Nat) ≠ 20 by decide)) : A49 (21, 0) = A42 (21, 0)).trans f44
  have f51 : A49 (22, 0) = some (q8, .inl (cI, 3, .inl (fun _ => 0))) := (by rw [eA49]; exact gU_n (gne (show (22 : Nat) ≠ 20 by decide)) : A49 (22, 0) = A42 (22, 0)).trans f45
  have f52 : A49 (24, 0) = some (q17, .inl (cI, 24, .inl (fun _ => 0))) := (by rw [eA49]; exact gU_n (gne (show (24 : Nat) ≠ 20 by decide)) : A49 (24, 0) = A42 (24, 0)).trans f46
  have f53 : A49 (25, 0) = some (q28, .inl (cI, 24, .inl (fun _ => 0))) := (by rw [eA49]; exact gU_n (gne (show (25 : Nat) ≠ 20 by decide)) : A49 (25, 0) = A42 (25, 0)).trans f47
  have f54 : A49 (26, 0) = some (q41, .inl (cZ, 24, .inl (fun _ => 0))) := (by rw [eA49]; exact gU_n (gne (show (26 : Nat) ≠ 20 by decide)) : A49 (26, 0) = A42 (26, 0)).trans f48
  have f55 : A49 (20, 0) = some (h, .inr (5, [.ref q1, .ref q8, .int 0, .ref q17, .ref q28, .ref q41, .null, .null, .null, .null, .null, .int 0, .null, .null, .null, .null, .null, .null, .null, .null, .null, .null, .int 0, .int 0])) := by rw [eA49]; exact gU_s
  have glA49 : gL A A49 := by rw [eA49]; exact glA42.U (by decide)
  refine lv_aload_n hx hb d_MM_init_42 rfl (lv_at hl 0 rfl) ?_
  refine lv_bipush (v := 72) hx hb d_MM_init_43 (by decide) ?_
  refine g_newa (atype := .int) (a0 := (72, .inl (fun _ => 0))) (N' := 72) hx hb (hts _ k_67) rfl hK.1 hP hS (27, 0) (hK.1.2 0 _ rfl).2 rfl (by decide) (by decide) (by decide) (by decide) (by decide) d_MM_init_45 (fun q56 H hP hS => ?_)
  refine W.widen (k := 6) (n := 150) (by decide) (by decide) ?_
  obtain ⟨A57, eA57⟩ : ∃ z, z = gU A49 (27, 0) (q56, .inl (cI, 72, .inl (fun _ => 0))) := ⟨_, rfl⟩
  replace hP : gP D classes b A57 H := by rw [eA57]; exact hP
  have f58 : A57 (20, 0) = some (h, .inr (5, [.ref q1, .ref q8, .int 0, .ref q17, .ref q28, .ref q41, .null, .null, .null, .null, .null, .int 0, .null, .null, .null, .null, .null, .null, .null, .null, .null, .null, .int 0, .int 0])) := (by rw [eA57]; exact gU_n (gne (show (20 : Nat) ≠ 27 by decide)) : A57 (20, 0) = A49 (20, 0)).trans f55
  have f59 : A57 (21, 0) = some (q1, .inl (cI, 3, .inl (fun _ => 0))) := (by rw [eA57]; exact gU_n (gne (show (21 : Nat) ≠ 27 by decide)) : A57 (21, 0) = A49 (21, 0)).trans f50
  have f60 : A57 (22, 0) = some (q8, .inl (cI, 3, .inl (fun _ => 0))) := (by rw [eA57]; exact gU_n (gne (show (22 : Nat) ≠ 27 by decide)) : A57 (22, 0) = A49 (22, 0)).trans f51
  have f61 : A57 (24, 0) = some (q17, .inl (cI, 24, .inl (fun _ => 0))) := (by rw [eA57]; exact gU_n (gne (show (24 : Nat) ≠ 27 by decide)) : A57 (24, 0) = A49 (24, 0)).trans f52
  have f62 : A57 (25, 0) = some (q28, .inl (cI, 24, .inl (fun _ => 0))) := (by rw [eA57]; exact gU_n (gne (show (25 : Nat) ≠ 27 by decide)) : A57 (25, 0) = A49 (25, 0)).trans f53
  have f63 : A57 (26, 0) = some (q41, .inl (cZ, 24, .inl (fun _ => 0))) := (by rw [eA57]; exact gU_n (gne (show (26 : Nat) ≠ 27 by decide)) : A57 (26, 0) = A49 (26, 0)).trans f54
  have f64 : A57 (27, 0) = some (q56, .inl (cI, 72, .inl (fun _ => 0))) := by rw [eA57]; exact gU_s
  have glA57 : gL A A57 := by rw [eA57]; exact glA49.U (by decide)
  refine g_putF (ty := (.array .int)) (v := .ref q56) hx hb hts i_MM t_MM t_MM_ok n_MM hown hK.1 hP hS f58 rfl 6 (by decide) (hts _ k_449) (fun _ h9 => h9) rfl hnm rfl (by decide +kernel) rfl rfl (Nat.le_of_ble_eq_true rfl) d_MM_init_47 (fun H locs hP hS => ?_)
  obtain ⟨A65, eA65⟩ : ∃ z, z = gU A57 (20, 0) (h, .inr (5, [.ref q1, .ref q8, .int 0, .ref q17, .ref q28, .ref q41, .ref q56, .null, .null, .null, .null, .int 0, .null, .null, .null, .null, .null, .null, .null, .null, .null, .null, .int 0, .int 0])) := ⟨_, rfl⟩
  replace hP : gP D classes b A65 H := by rw [eA65]; exact hP
  have f66 : A65 (21, 0) = some (q1, .inl (cI, 3, .inl (fun _ => 0))) := (by rw [eA65]; exact gU_n (gne (show (21 : Nat) ≠ 20 by decide)) : A65 (21, 0) = A57 (21, 0)).trans f59
  have f67 : A65 (22, 0) = some (q8, .inl (cI, 3, .inl (fun _ => 0))) := (by rw [eA65]; exact gU_n (gne (show (22 : Nat) ≠ 20 by decide)) : A65 (22, 0) = A57 (22, 0)).trans f60
  have f68 : A65 (24, 0) = some (q17, .inl (cI, 24, .inl (fun _ => 0))) := (by rw [eA65]; exact gU_n (gne (show (24 : Nat) ≠ 20 by decide)) : A65 (24, 0) = A57 (24, 0)).trans f61
  have f69 : A65 (25, 0) = some (q28, .inl (cI, 24, .inl (fun _ => 0))) := (by rw [eA65]; exact gU_n (gne (show (25 : Nat) ≠ 20 by decide)) : A65 (25, 0) = A57 (25, 0)).trans f62
  have f70 : A65 (26, 0) = some (q41, .inl (cZ, 24, .inl (fun _ => 0))) := (by rw [eA65]; exact gU_n (gne (show (26 : Nat) ≠ 20 by decide)) : A65 (26, 0) = A57 (26, 0)).trans f63
  have f71 : A65 (27, 0) = some (q56, .inl (cI, 72, .inl (fun _ => 0))) := (by rw [eA65]; exact gU_n (gne (show (27 : Nat) ≠ 20 by decide)) : A65 (27, 0) = A57 (27, 0)).trans f64
  have f72 : A65 (20, 0) = some (h, .inr (5, [.ref q1, .ref q8, .int 0, .ref q17, .ref q28, .ref q41, .ref q56, .null, .null, .null, .null, .int 0, .null, .null, .null, .null, .null, .null, .null, .null, .null, .null, .int 0, .int 0])) := by rw [eA65]; exact gU_s
  have glA65 : gL A A65 := by rw [eA65]; exact glA57.U (by decide)
  refine lv_aload_n hx hb d_MM_init_50 rfl (lv_at hl 0 rfl) ?_
  refine lv_bipush (v := 72) hx hb d_MM_init_51 (by decide) ?_
  refine g_newa (atype := .int) (a0 := (72, .inl (fun _ => 0))) (N' := 72) hx hb (hts _ k_67) rfl hK.1 hP hS (28, 0) (hK.1.2 0 _ rfl).2 rfl (by decide) (by decide) (by decide) (by decide) (by decide) d_MM_init_53 (fun q73 H hP hS => ?_)
  refine W.widen (k := 7) (n := 222) (by decide) (by decide) ?_
  obtain ⟨A74, eA74⟩ : ∃ z, z = gU A65 (28, 0) (q73, .inl (cI, 72, .inl (fun _ => 0))) := ⟨_, rfl⟩
  replace hP : gP D classes b A74 H := by rw [eA74]; exact hP
  have f75 : A74 (20, 0) = some (h, .inr (5, [.ref q1, .ref q8, .int 0, .ref q17, .ref q28, .ref q41, .ref q56, .null, .null, .null, .null, .int 0, .null, .null, .null, .null, .null, .null, .null, .null, .null, .null, .int 0, .int 0])) := (by rw [eA74]; exact gU_n (gne (show (20 : Nat) ≠ 28 by decide)) : A74 (20, 0) = A65 (20, 0)).trans f72
  have f76 : A74 (21, 0) = some (q1, .inl (cI, 3, .inl (fun _ => 0))) := (by rw [eA74]; exact gU_n (gne (show (21 : Nat) ≠ 28 by decide)) : A74 (21, 0) = A65 (21, 0)).trans f66
  have f77 : A74 (22, 0) = some (q8, .inl (cI, 3, .inl (fun _ => 0))) := (by rw [eA74]; exact gU_n (gne (show (22 : Nat) ≠ 28 by decide)) : A74 (22, 0) = A65 (22, 0)).trans f67
  have f78 : A74 (24, 0) = some (q17, .inl (cI, 24, .inl (fun _ => 0))) := (by rw [eA74]; exact gU_n (gne (show (24 : Nat) ≠ 28 by decide)) : A74 (24, 0) = A65 (24, 0)).trans f68
  have f79 : A74 (25, 0) = some (q28, .inl (cI, 24, .inl (fun _ => 0))) := (by rw [eA74]; exact gU_n (gne (show (25 : Nat) ≠ 28 by decide)) : A74 (25, 0) = A65 (25, 0)).trans f69
  have f80 : A74 (26, 0) = some (q41, .inl (cZ, 24, .inl (fun _ => 0))) := (by rw [eA74]; exact gU_n (gne (show (26 : Nat) ≠ 28 by decide)) : A74 (26, 0) = A65 (26, 0)).trans f70
  have f81 : A74 (27, 0) = some (q56, .inl (cI, 72, .inl (fun _ => 0))) := (by rw [eA74]; exact gU_n (gne (show (27 : Nat) ≠ 28 by decide)) : A74 (27, 0) = A65 (27, 0)).trans f71
  have f82 : A74 (28, 0) = some (q73, .inl (cI, 72, .inl (fun _ => 0))) := by rw [eA74]; exact gU_s
  have glA74 : gL A A74 := by rw [eA74]; exact glA65.U (by decide)
  refine g_putF (ty := (.array .int)) (v := .ref q73) hx hb hts i_MM t_MM t_MM_ok n_MM hown hK.1 hP hS f75 rfl 7 (by decide) (hts _ k_450) (fun _ h9 => h9) rfl hnm rfl (by decide +kernel) rfl rfl (Nat.le_of_ble_eq_true rfl) d_MM_init_55 (fun H locs hP hS => ?_)
  obtain ⟨A83, eA83⟩ : ∃ z, z = gU A74 (20, 0) (h, .inr (5, [.ref q1, .ref q8, .int 0, .ref q17, .ref q28, .ref q41, .ref q56, .ref q73, .null, .null, .null, .int 0, .null, .null, .null, .null, .null, .null, .null, .null, .null, .null, .int 0, .int 0])) := ⟨_, rfl⟩
  replace hP : gP D classes b A83 H := by rw [eA83]; exact hP
  have f84 : A83 (21, 0) = some (q1, .inl (cI, 3, .inl (fun _ => 0))) := (by rw [eA83]; exact gU_n (gne (show (21 : Nat) ≠ 20 by decide)) : A83 (21, 0) = A74 (21, 0)).trans f76
  have f85 : A83 (22, 0) = some (q8, .inl (cI, 3, .inl (fun _ => 0))) := (by rw [eA83]; exact gU_n (gne (show (22 : Nat) ≠ 20 by decide)) : A83 (22, 0) = A74 (22, 0)).trans f77
  have f86 : A83 (24, 0) = some (q17, .inl (cI, 24, .inl (fun _ => 0))) := (by rw [eA83]; exact gU_n (gne (show (24 : Nat) ≠ 20 by decide)) : A83 (24, 0) = A74 (24, 0)).trans f78
  have f87 : A83 (25, 0) = some (q28, .inl (cI, 24, .inl (fun _ => 0))) := (by rw [eA83]; exact gU_n (gne (show (25 : Nat) ≠ 20 by decide)) : A83 (25, 0) = A74 (25, 0)).trans f79
  have f88 : A83 (26, 0) = some (q41, .inl (cZ, 24, .inl (fun _ => 0))) := (by rw [eA83]; exact gU_n (gne (show (26 : Nat) ≠ 20 by decide)) : A83 (26, 0) = A74 (26, 0)).trans f80
  have f89 : A83 (27, 0) = some (q56, .inl (cI, 72, .inl (fun _ => 0))) := (by rw [eA83]; exact gU_n (gne (show (27 : Nat) ≠ 20 by decide)) : A83 (27, 0) = A74 (27, 0)).trans f81
  have f90 : A83 (28, 0) = some (q73, .inl (cI, 72, .inl (fun _ => 0))) := (by rw [eA83]; exact gU_n (gne (show (28 : Nat) ≠ 20 by decide)) : A83 (28, 0) = A74 (28, 0)).trans f82
  have f91 : A83 (20, 0) = some (h, .inr (5, [.ref q1, .ref q8, .int 0, .ref q17, .ref q28, .ref q41, .ref q56, .ref q73, .null, .null, .null, .int 0, .null, .null, .null, .null, .null, .null, .null, .null, .null, .null, .int 0, .int 0])) := by rw [eA83]; exact gU_s
  have glA83 : gL A A83 := by rw [eA83]; exact glA74.U (by decide)
  refine lv_aload_n hx hb d_MM_init_58 rfl (lv_at hl 0 rfl) ?_
  refine lv_bipush (v := 96) hx hb d_MM_init_59 (by decide) ?_
  refine g_newa (atype := .int) (a0 := (96, .inl (fun _ => 0))) (N' := 96) hx hb (hts _ k_67) rfl hK.1 hP hS (29, 0) (hK.1.2 0 _ rfl).2 rfl (by decide) (by decide) (by decide) (by decide) (by decide) d_MM_init_61 (fun q92 H hP hS => ?_)
  refine W.widen (k := 8) (n := 318) (by decide) (by decide) ?_
  obtain ⟨A93, eA93⟩ : ∃ z, z = gU A83 (29, 0) (q92, .inl (cI, 96, .inl (fun _ => 0))) := ⟨_, rfl⟩
  replace hP : gP D classes b A93 H := by rw [eA93]; exact hP
  have f94 : A93 (20, 0) = some (h, .inr (5, [.ref q1, .ref q8, .int 0, .ref q17, .ref q28, .ref q41, .ref q56, .ref q73, .null, .null, .null, .int 0, .null, .null, .null, .null, .null, .null, .null, .null, .null, .null, .int 0, .int 0])) := (by rw [eA93]; exact gU_n (gne (show (20 : Nat) ≠ 29 by decide)) : A93 (20, 0) = A83 (20, 0)).trans f91
  have f95 : A93 (21, 0) = some (q1, .inl (cI, 3, .inl (fun _ => 0))) := (by rw [eA93]; exact gU_n (gne (show (21 : Nat) ≠ 29 by decide)) : A93 (21, 0) = A83 (21, 0)).trans f84
  have f96 : A93 (22, 0) = some (q8, .inl (cI, 3, .inl (fun _ => 0))) := (by rw [eA93]; exact gU_n (gne (show (22 : Nat) ≠ 29 by decide)) : A93 (22, 0) = A83 (22, 0)).trans f85
  have f97 : A93 (24, 0) = some (q17, .inl (cI, 24, .inl (fun _ => 0))) := (by rw [eA93]; exact gU_n (gne (show (24 : Nat) ≠ 29 by decide)) : A93 (24, 0) = A83 (24, 0)).trans f86
  have f98 : A93 (25, 0) = some (q28, .inl (cI, 24, .inl (fun _ => 0))) := (by rw [eA93]; exact gU_n (gne (show (25 : Nat) ≠ 29 by decide)) : A93 (25, 0) = A83 (25, 0)).trans f87
  have f99 : A93 (26, 0) = some (q41, .inl (cZ, 24, .inl (fun _ => 0))) := (by rw [eA93]; exact gU_n (gne (show (26 : Nat) ≠ 29 by decide)) : A93 (26, 0) = A83 (26, 0)).trans f88
  have f100 : A93 (27, 0) = some (q56, .inl (cI, 72, .inl (fun _ => 0))) := (by rw [eA93]; exact gU_n (gne (show (27 : Nat) ≠ 29 by decide)) : A93 (27, 0) = A83 (27, 0)).trans f89
  have f101 : A93 (28, 0) = some (q73, .inl (cI, 72, .inl (fun _ => 0))) := (by rw [eA93]; exact gU_n (gne (show (28 : Nat) ≠ 29 by decide)) : A93 (28, 0) = A83 (28, 0)).trans f90
  have f102 : A93 (29, 0) = some (q92, .inl (cI, 96, .inl (fun _ => 0))) := by rw [eA93]; exact gU_s
  have glA93 : gL A A93 := by rw [eA93]; exact glA83.U (by decide)
  refine g_putF (ty := (.array .int)) (v := .ref q92) hx hb hts i_MM t_MM t_MM_ok n_MM hown hK.1 hP hS f94 rfl 8 (by decide) (hts _ k_451) (fun _ h9 => h9) rfl hnm rfl (by decide +kernel) rfl rfl (Nat.le_of_ble_eq_true rfl) d_MM_init_63 (fun H locs hP hS => ?_)
  obtain ⟨A103, eA103⟩ : ∃ z, z = gU A93 (20, 0) (h, .inr (5, [.ref q1, .ref q8, .int 0, .ref q17, .ref q28, .ref q41, .ref q56, .ref q73, .ref q92, .null, .null, .int 0, .null, .null, .null, .null, .null, .null, .null, .null, .null, .null, .int 0, .int 0])) := ⟨_, rfl⟩
  replace hP : gP D classes b A103 H := by rw [eA103]; exact hP
  have f104 : A103 (21, 0) = some (q1, .inl (cI, 3, .inl (fun _ => 0))) := (by rw [eA103]; exact gU_n (gne (show (21 : Nat) ≠ 20 by decide)) : A103 (21, 0) = A93 (21, 0)).trans f95
  have f105 : A103 (22, 0) = some (q8, .inl (cI, 3, .inl (fun _ => 0))) := (by rw [eA103]; exact gU_n (gne (show (22 : Nat) ≠ 20 by decide)) : A103 (22, 0) = A93 (22, 0)).trans f96
  have f106 : A103 (24, 0) = some (q17, .inl (cI, 24, .inl (fun _ => 0))) := (by rw [eA103]; exact gU_n (gne (show (24 : Nat) ≠ 20 by decide)) : A103 (24, 0) = A93 (24, 0)).trans f97
  have f107 : A103 (25, 0) = some (q28, .inl (cI, 24, .inl (fun _ => 0))) := (by rw [eA103]; exact gU_n (gne (show (25 : Nat) ≠ 20 by decide)) : A103 (25, 0) = A93 (25, 0)).trans f98
  have f108 : A103 (26, 0) = some (q41, .inl (cZ, 24, .inl (fun _ => 0))) := (by rw [eA103]; exact gU_n (gne (show (26 : Nat) ≠ 20 by decide)) : A103 (26, 0) = A93 (26, 0)).trans f99
  have f109 : A103 (27, 0) = some (q56, .inl (cI, 72, .inl (fun _ => 0))) := (by rw [eA103]; exact gU_n (gne (show (27 : Nat) ≠ 20 by decide)) : A103 (27, 0) = A93 (27, 0)).trans f100
  have f110 : A103 (28, 0) = some (q73, .inl (cI, 72, .inl (fun _ => 0))) := (by rw [eA103]; exact gU_n (gne (show (28 : Nat) ≠ 20 by decide)) : A103 (28, 0) = A93 (28, 0)).trans f101
  have f111 : A103 (29, 0) = some (q92, .inl (cI, 96, .inl (fun _ => 0))) := (by rw [eA103]; exact gU_n (gne (show (29 : Nat) ≠ 20 by decide)) : A103 (29, 0) = A93 (29, 0)).trans f102
  have f112 : A103 (20, 0) = some (h, .inr (5, [.ref q1, .ref q8, .int 0, .ref q17, .ref q28, .ref q41, .ref q56, .ref q73, .ref q92, .null, .null, .int 0, .null, .null, .null, .null, .null, .null, .null, .null, .null, .null, .int 0, .int 0])) := by rw [eA103]; exact gU_s
  have glA103 : gL A A103 := by rw [eA103]; exact glA93.U (by decide)
  refine lv_aload_n hx hb d_MM_init_66 rfl (lv_at hl 0 rfl) ?_
  refine lv_bipush (v := 96) hx hb d_MM_init_67 (by decide) ?_
  refine g_newa (atype := .int) (a0 := (96, .inl (fun _ => 0))) (N' := 96) hx hb (hts _ k_67) rfl hK.1 hP hS (30, 0) (hK.1.2 0 _ rfl).2 rfl (by decide) (by decide) (by decide) (by decide) (by decide) d_MM_init_69 (fun q113 H hP hS => ?_)
  refine W.widen (k := 9) (n := 414) (by decide) (by decide) ?_
  obtain ⟨A114, eA114⟩ : ∃ z, z = gU A103 (30, 0) (q113, .inl (cI, 96, .inl (fun _ => 0))) := ⟨_, rfl⟩
  replace hP : gP D classes b A114 H := by rw [eA114]; exact hP
  have f115 : A114 (20, 0) = some (h, .inr (5, [.ref q1, .ref q8, .int 0, .ref q17, .ref q28, .ref q41, .ref q56, .ref q73, .ref q92, .null, .null, .int 0, .null, .null, .null, .null, .null, .null, .null, .null, .null, .null, .int 0, .int 0])) := (by rw [eA114]; exact gU_n (gne (show (20 : Nat) ≠ 30 by decide)) : A114 (20, 0) = A103 (20, 0)).trans f112
  have f116 : A114 (21, 0) = some (q1, .inl (cI, 3, .inl (fun _ => 0))) := (by rw [eA114]; exact gU_n (gne (show (21 : Nat) ≠ 30 by decide)) : A114 (21, 0) = A103 (21, 0)).trans f104
  have f117 : A114 (22, 0) = some (q8, .inl (cI, 3, .inl (fun _ => 0))) := (by rw [eA114]; exact gU_n (gne (show (22 : Nat) ≠ 30 by decide)) : A114 (22, 0) = A103 (22, 0)).trans f105
  have f118 : A114 (24, 0) = some (q17, .inl (cI, 24, .inl (fun _ => 0))) := (by rw [eA114]; exact gU_n (gne (show (24 : Nat) ≠ 30 by decide)) : A114 (24, 0) = A103 (24, 0)).trans f106
  have f119 : A114 (25, 0) = some (q28, .inl (cI, 24, .inl (fun _ => 0))) := (by rw [eA114]; exact gU_n (gne (show (25 : Nat) ≠ 30 by decide)) : A114 (25, 0) = A103 (25, 0)).trans f107
  have f120 : A114 (26, 0) = some (q41, .inl (cZ, 24, .inl (fun _ => 0))) := (by rw [eA114]; exact gU_n (gne (show (26 : Nat) ≠ 30 by decide)) : A114 (26, 0) = A103 (26, 0)).trans f108
  have f121 : A114 (27, 0) = some (q56, .inl (cI, 72, .inl (fun _ => 0))) := (by rw [eA114]; exact gU_n (gne (show (27 : Nat) ≠ 30 by decide)) : A114 (27, 0) = A103 (27, 0)).trans f109
  have f122 : A114 (28, 0) = some (q73, .inl (cI, 72, .inl (fun _ => 0))) := (by rw [eA114]; exact gU_n (gne (show (28 : Nat) ≠ 30 by decide)) : A114 (28, 0) = A103 (28, 0)).trans f110
  have f123 : A114 (29, 0) = some (q92, .inl (cI, 96, .inl (fun _ => 0))) := (by rw [eA114]; exact gU_n (gne (show (29 : Nat) ≠ 30 by decide)) : A114 (29, 0) = A103 (29, 0)).trans f111
  have f124 : A114 (30, 0) = some (q113, .inl (cI, 96, .inl (fun _ => 0))) := by rw [eA114]; exact gU_s
  have glA114 : gL A A114 := by rw [eA114]; exact glA103.U (by decide)
  refine g_putF (ty := (.array .int)) (v := .ref q113) hx hb hts i_MM t_MM t_MM_ok n_MM hown hK.1 hP hS f115 rfl 9 (by decide) (hts _ k_452) (fun _ h9 => h9) rfl hnm rfl (by decide +kernel) rfl rfl (Nat.le_of_ble_eq_true rfl) d_MM_init_71 (fun H locs hP hS => ?_)
  obtain ⟨A125, eA125⟩ : ∃ z, z = gU A114 (20, 0) (h, .inr (5, [.ref q1, .ref q8, .int 0, .ref q17, .ref q28, .ref q41, .ref q56, .ref q73, .ref q92, .ref q113, .null, .int 0, .null, .null, .null, .null, .null, .null, .null, .null, .null, .null, .int 0, .int 0])) := ⟨_, rfl⟩
  replace hP : gP D classes b A125 H := by rw [eA125]; exact hP
  have f126 : A125 (21, 0) = some (q1, .inl (cI, 3, .inl (fun _ => 0))) := (by rw [eA125]; exact gU_n (gne (show (21 : Nat) ≠ 20 by decide)) : A125 (21, 0) = A114 (21, 0)).trans f116
  have f127 : A125 (22, 0) = some (q8, .inl (cI, 3, .inl (fun _ => 0))) := (by rw [eA125]; exact gU_n (gne (show (22 : Nat) ≠ 20 by decide)) : A125 (22, 0) = A114 (22, 0)).trans f117
  have f128 : A125 (24, 0) = some (q17, .inl (cI, 24, .inl (fun _ => 0))) := (by rw [eA125]; exact gU_n (gne (show (24 : Nat) ≠ 20 by decide)) : A125 (24, 0) = A114 (24, 0)).trans f118
  have f129 : A125 (25, 0) = some (q28, .inl (cI, 24, .inl (fun _ => 0))) := (by rw [eA125]; exact gU_n (gne (show (25 : Nat) ≠ 20 by decide)) : A125 (25, 0) = A114 (25, 0)).trans f119
  have f130 : A125 (26, 0) = some (q41, .inl (cZ, 24, .inl (fun _ => 0))) := (by rw [eA125]; exact gU_n (gne (show (26 : Nat) ≠ 20 by decide)) : A125 (26, 0) = A114 (26, 0)).trans f120
  have f131 : A125 (27, 0) = some (q56, .inl (cI, 72, .inl (fun _ => 0))) := (by rw [eA125]; exact gU_n (gne (show (27 : Nat) ≠ 20 by decide)) : A125 (27, 0) = A114 (27, 0)).trans f121
  have f132 : A125 (28, 0) = some (q73, .inl (cI, 72, .inl (fun _ => 0))) := (by rw [eA125]; exact gU_n (gne (show (28 : Nat) ≠ 20 by decide)) : A125 (28, 0) = A114 (28, 0)).trans f122
  have f133 : A125 (29, 0) = some (q92, .inl (cI, 96, .inl (fun _ => 0))) := (by rw [eA125]; exact gU_n (gne (show (29 : Nat) ≠ 20 by decide)) : A125 (29, 0) = A114 (29, 0)).trans f123
  have f134 : A125 (30, 0) = some (q113, .inl (cI, 96, .inl (fun _ => 0))) := (by rw [eA125]; exact gU_n (gne (show (30 : Nat) ≠ 20 by decide)) : A125 (30, 0) = A114 (30, 0)).trans f124
  have f135 : A125 (20, 0) = some (h, .inr (5, [.ref q1, .ref q8, .int 0, .ref q17, .ref q28, .ref q41, .ref q56, .ref q73, .ref q92, .ref q113, .null, .int 0, .null, .null, .null, .null, .null, .null, .null, .null, .null, .null, .int 0, .int 0])) := by rw [eA125]; exact gU_s
  have glA125 : gL A A125 := by rw [eA125]; exact glA114.U (by decide)
  refine lv_aload_n hx hb d_MM_init_74 rfl (lv_at hl 0 rfl) ?_
  refine lv_bipush (v := 24) hx hb d_MM_init_75 (by decide) ?_
  refine g_newa (atype := .int) (a0 := (24, .inl (fun _ => 0))) (N' := 24) hx hb (hts _ k_67) rfl hK.1 hP hS (31, 0) (hK.1.2 0 _ rfl).2 rfl (by decide) (by decide) (by decide) (by decide) (by decide) d_MM_init_77 (fun q136 H hP hS => ?_)
  refine W.widen (k := 10) (n := 438) (by decide) (by decide) ?_
  obtain ⟨A137, eA137⟩ : ∃ z, z = gU A125 (31, 0) (q136, .inl (cI, 24, .inl (fun _ => 0))) := ⟨_, rfl⟩
  replace hP : gP D classes b A137 H := by rw [eA137]; exact hP
  have f138 : A137 (20, 0) = some (h, .inr (5, [.ref q1, .ref q8, .int 0, .ref q17, .ref q28, .ref q41, .ref q56, .ref q73, .ref q92, .ref q113, .null, .int 0, .null, .null, .null, .null, .null, .null, .null, .null, .null, .null, .int 0, .int 0])) := (by rw [eA137]; exact gU_n (gne (show (20 : Nat) ≠ 31 by decide)) : A137 (20, 0) = A125 (20, 0)).trans f135
  have f139 : A137 (21, 0) = some (q1, .inl (cI, 3, .inl (fun _ => 0))) := (by rw [eA137]; exact gU_n (gne (show (21 : Nat) ≠ 31 by decide)) : A137 (21, 0) = A125 (21, 0)).trans f126
  have f140 : A137 (22, 0) = some (q8, .inl (cI, 3, .inl (fun _ => 0))) := (by rw [eA137]; exact gU_n (gne (show (22 : Nat) ≠ 31 by decide)) : A137 (22, 0) = A125 (22, 0)).trans f127
  have f141 : A137 (24, 0) = some (q17, .inl (cI, 24, .inl (fun _ => 0))) := (by rw [eA137]; exact gU_n (gne (show (24 : Nat) ≠ 31 by decide)) : A137 (24, 0) = A125 (24, 0)).trans f128
  have f142 : A137 (25, 0) = some (q28, .inl (cI, 24, .inl (fun _ => 0))) := (by rw [eA137]; exact gU_n (gne (show (25 : Nat) ≠ 31 by decide)) : A137 (25, 0) = A125 (25, 0)).trans f129
  have f143 : A137 (26, 0) = some (q41, .inl (cZ, 24, .inl (fun _ => 0))) := (by rw [eA137]; exact gU_n (gne (show (26 : Nat) ≠ 31 by decide)) : A137 (26, 0) = A125 (26, 0)).trans f130
  have f144 : A137 (27, 0) = some (q56, .inl (cI, 72, .inl (fun _ => 0))) := (by rw [eA137]; exact gU_n (gne (show (27 : Nat) ≠ 31 by decide)) : A137 (27, 0) = A125 (27, 0)).trans f131
  have f145 : A137 (28, 0) = some (q73, .inl (cI, 72, .inl (fun _ => 0))) := (by rw [eA137]; exact gU_n (gne (show (28 : Nat) ≠ 31 by decide)) : A137 (28, 0) = A125 (28, 0)).trans f132
  have f146 : A137 (29, 0) = some (q92, .inl (cI, 96, .inl (fun _ => 0))) := (by rw [eA137]; exact gU_n (gne (show (29 : Nat) ≠ 31 by decide)) : A137 (29, 0) = A125 (29, 0)).trans f133
  have f147 : A137 (30, 0) = some (q113, .inl (cI, 96, .inl (fun _ => 0))) := (by rw [eA137]; exact gU_n (gne (show (30 : Nat) ≠ 31 by decide)) : A137 (30, 0) = A125 (30, 0)).trans f134
  have f148 : A137 (31, 0) = some (q136, .inl (cI, 24, .inl (fun _ => 0))) := by rw [eA137]; exact gU_s
  have glA137 : gL A A137 := by rw [eA137]; exact glA125.U (by decide)
  refine g_putF (ty := (.array .int)) (v := .ref q136) hx hb hts i_MM t_MM t_MM_ok n_MM hown hK.1 hP hS f138 rfl 10 (by decide) (hts _ k_453) (fun _ h9 => h9) rfl hnm rfl (by decide +kernel) rfl rfl (Nat.le_of_ble_eq_true rfl) d_MM_init_79 (fun H locs hP hS => ?_)
  obtain ⟨A149, eA149⟩ : ∃ z, z = gU A137 (20, 0) (h, .inr (5, [.ref q1, .ref q8, .int 0, .ref q17, .ref q28, .ref q41, .ref q56, .ref q73, .ref q92, .ref q113, .ref q136, .int 0, .null, .null, .null, .null, .null, .null, .null, .null, .null, .null, .int 0, .int 0])) := ⟨_, rfl⟩
  replace hP : gP D classes b A149 H := by rw [eA149]; exact hP
  have f150 : A149 (21, 0) = some (q1, .inl (cI, 3, .inl (fun _ => 0))) := (by rw [eA149]; exact gU_n (gne (show (21 : Nat) ≠ 20 by decide)) : A149 (21, 0) = A137 (21, 0)).trans f139
  have f151 : A149 (22, 0) = some (q8, .inl (cI, 3, .inl (fun _ => 0))) := (by rw [eA149]; exact gU_n (gne (show (22 : Nat) ≠ 20 by decide)) : A149 (22, 0) = A137 (22, 0)).trans f140
  have f152 : A149 (24, 0) = some (q17, .inl (cI, 24, .inl (fun _ => 0))) := (by rw [eA149]; exact gU_n (gne (show (24 : Nat) ≠ 20 by decide)) : A149 (24, 0) = A137 (24, 0)).trans f141
  have f153 : A149 (25, 0) = some (q28, .inl (cI, 24, .inl (fun _ => 0))) := (by rw [eA149]; exact gU_n (gne (show (25 : Nat) ≠ 20 by decide)) : A149 (25, 0) = A137 (25, 0)).trans f142
  have f154 : A149 (26, 0) = some (q41, .inl (cZ, 24, .inl (fun _ => 0))) := (by rw [eA149]; exact gU_n (gne (show (26 : Nat) ≠ 20 by decide)) : A149 (26, 0) = A137 (26, 0)).trans f143
  have f155 : A149 (27, 0) = some (q56, .inl (cI, 72, .inl (fun _ => 0))) := (by rw [eA149]; exact gU_n (gne (show (27 : Nat) ≠ 20 by decide)) : A149 (27, 0) = A137 (27, 0)).trans f144
  have f156 : A149 (28, 0) = some (q73, .inl (cI, 72, .inl (fun _ => 0))) := (by rw [eA149]; exact gU_n (gne (show (28 : Nat) ≠ 20 by decide)) : A149 (28, 0) = A137 (28, 0)).trans f145
  have f157 : A149 (29, 0) = some (q92, .inl (cI, 96, .inl (fun _ => 0))) := (by rw [eA149]; exact gU_n (gne (show (29 : Nat) ≠ 20 by decide)) : A149 (29, 0) = A137 (29, 0)).trans f146
  have f158 : A149 (30, 0) = some (q113, .inl (cI, 96, .inl (fun _ => 0))) := (by rw [eA149]; exact gU_n (gne (show (30 : Nat) ≠ 20 by decide)) : A149 (30, 0) = A137 (30, 0)).trans f147
  have f159 : A149 (31, 0) = some (q136, .inl (cI, 24, .inl (fun _ => 0))) := (by rw [eA149]; exact gU_n (gne (show (31 : Nat) ≠ 20 by decide)) : A149 (31, 0) = A137 (31, 0)).trans f148
  have f160 : A149 (20, 0) = some (h, .inr (5, [.ref q1, .ref q8, .int 0, .ref q17, .ref q28, .ref q41, .ref q56, .ref q73, .ref q92, .ref q113, .ref q136, .int 0, .null, .null, .null, .null, .null, .null, .null, .null, .null, .null, .int 0, .int 0])) := by rw [eA149]; exact gU_s
  have glA149 : gL A A149 := by rw [eA149]; exact glA137.U (by decide)
  refine lv_aload_n hx hb d_MM_init_82 rfl (lv_at hl 0 rfl) ?_
  refine lv_iconst (v := 4) hx hb d_MM_init_83 (by decide) ?_
  refine g_newa (atype := .boolean) (a0 := (4, .inl (fun _ => 0))) (N' := 4) hx hb (hts _ k_66) rfl hK.1 hP hS (33, 0) (hK.1.2 1 _ rfl).2 rfl (by decide) (by decide) (by decide) (by decide) (by decide) d_MM_init_84 (fun q161 H hP hS => ?_)
  refine W.widen (k := 11) (n := 442) (by decide) (by decide) ?_
  obtain ⟨A162, eA162⟩ : ∃ z, z = gU A149 (33, 0) (q161, .inl (cZ, 4, .inl (fun _ => 0))) := ⟨_, rfl⟩
  replace hP : gP D classes b A162 H := by rw [eA162]; exact hP
  have f163 : A162 (20, 0) = some (h, .inr (5, [.ref q1, .ref q8, .int 0, .ref q17, .ref q28, .ref q41, .ref q56, .ref q73, .ref q92, .ref q113, .ref q136, .int 0, .null, .null, .null, .null, .null, .null, .null, .null, .null, .null, .int 0, .int 0])) := (by rw [eA162]; exact gU_n (gne (show (20 : Nat) ≠ 33 by decide)) : A162 (20, 0) = A149 (20, 0)).trans f160
  have f164 : A162 (21, 0) = some (q1, .inl (cI, 3, .inl (fun _ => 0))) := (by rw [eA162]; exact gU_n (gne (show (21 : Nat) ≠ 33 by decide)) : A162 (21, 0) = A149 (21, 0)).trans f150
  have f165 : A162 (22, 0) = some (q8, .inl (cI, 3, .inl (fun _ => 0))) := (by rw [eA162]; exact gU_n (gne (show (22 : Nat) ≠ 33 by decide)) : A162 (22, 0) = A149 (22, 0)).trans f151
  have f166 : A162 (24, 0) = some (q17, .inl (cI, 24, .inl (fun _ => 0))) := (by rw [eA162]; exact gU_n (gne (show (24 : Nat) ≠ 33 by decide)) : A162 (24, 0) = A149 (24, 0)).trans f152
  have f167 : A162 (25, 0) = some (q28, .inl (cI, 24, .inl (fun _ => 0))) := (by rw [eA162]; exact gU_n (gne (show (25 : Nat) ≠ 33 by decide)) : A162 (25, 0) = A149 (25, 0)).trans f153
  have f168 : A162 (26, 0) = some (q41, .inl (cZ, 24, .inl (fun _ => 0))) := (by rw [eA162]; exact gU_n (gne (show (26 : Nat) ≠ 33 by decide)) : A162 (26, 0) = A149 (26, 0)).trans f154
  have f169 : A162 (27, 0) = some (q56, .inl (cI, 72, .inl (fun _ => 0))) := (by rw [eA162]; exact gU_n (gne (show (27 : Nat) ≠ 33 by decide)) : A162 (27, 0) = A149 (27, 0)).trans f155
  have f170 : A162 (28, 0) = some (q73, .inl (cI, 72, .inl (fun _ => 0))) := (by rw [eA162]; exact gU_n (gne (show (28 : Nat) ≠ 33 by decide)) : A162 (28, 0) = A149 (28, 0)).trans f156
  have f171 : A162 (29, 0) = some (q92, .inl (cI, 96, .inl (fun _ => 0))) := (by rw [eA162]; exact gU_n (gne (show (29 : Nat) ≠ 33 by decide)) : A162 (29, 0) = A149 (29, 0)).trans f157
  have f172 : A162 (30, 0) = some (q113, .inl (cI, 96, .inl (fun _ => 0))) := (by rw [eA162]; exact gU_n (gne (show (30 : Nat) ≠ 33 by decide)) : A162 (30, 0) = A149 (30, 0)).trans f158
  have f173 : A162 (31, 0) = some (q136, .inl (cI, 24, .inl (fun _ => 0))) := (by rw [eA162]; exact gU_n (gne (show (31 : Nat) ≠ 33 by decide)) : A162 (31, 0) = A149 (31, 0)).trans f159
  have f174 : A162 (33, 0) = some (q161, .inl (cZ, 4, .inl (fun _ => 0))) := by rw [eA162]; exact gU_s
  have glA162 : gL A A162 := by rw [eA162]; exact glA149.U (by decide)
  refine g_putF (ty := (.array .boolean)) (v := .ref q161) hx hb hts i_MM t_MM t_MM_ok n_MM hown hK.1 hP hS f163 rfl 12 (by decide) (hts _ k_455) (fun _ h9 => h9) rfl hnm rfl (by decide +kernel) rfl rfl (Nat.le_of_ble_eq_true rfl) d_MM_init_86 (fun H locs hP hS => ?_)
  obtain ⟨A175, eA175⟩ : ∃ z, z = gU A162 (20, 0) (h, .inr (5, [.ref q1, .ref q8, .int 0, .ref q17, .ref q28, .ref q41, .ref q56, .ref q73, .ref q92, .ref q113, .ref q136, .int 0, .ref q161, .null, .null, .null, .null, .null, .null, .null, .null, .null, .int 0, .int 0])) := ⟨_, rfl⟩
  replace hP : gP D classes b A175 H := by rw [eA175]; exact hP
  have f176 : A175 (21, 0) = some (q1, .inl (cI, 3, .inl (fun _ => 0))) := (by rw [eA175]; exact gU_n (gne (show (21 : Nat) ≠ 20 by decide)) : A175 (21, 0) = A162 (21, 0)).trans f164
  have f177 : A175 (22, 0) = some (q8, .inl (cI, 3, .inl (fun _ => 0))) := (by rw [eA175]; exact gU_n (gne (show (22 : Nat) ≠ 20 by decide)) : A175 (22, 0) = A162 (22, 0)).trans f165
  have f178 : A175 (24, 0) = some (q17, .inl (cI, 24, .inl (fun _ => 0))) := (by rw [eA175]; exact gU_n (gne (show (24 : Nat) ≠ 20 by decide)) : A175 (24, 0) = A162 (24, 0)).trans f166
  have f179 : A175 (25, 0) = some (q28, .inl (cI, 24, .inl (fun _ => 0))) := (by rw [eA175]; exact gU_n (gne (show (25 : Nat) ≠ 20 by decide)) : A175 (25, 0) = A162 (25, 0)).trans f167
  have f180 : A175 (26, 0) = some (q41, .inl (cZ, 24, .inl (fun _ => 0))) := (by rw [eA175]; exact gU_n (gne (show (26 : Nat) ≠ 20 by decide)) : A175 (26, 0) = A162 (26, 0)).trans f168
  have f181 : A175 (27, 0) = some (q56, .inl (cI, 72, .inl (fun _ => 0))) := (by rw [eA175]; exact gU_n (gne (show (27 : Nat) ≠ 20 by decide)) : A175 (27, 0) = A162 (27, 0)).trans f169
  have f182 : A175 (28, 0) = some (q73, .inl (cI, 72, .inl (fun _ => 0))) := (by rw [eA175]; exact gU_n (gne (show (28 : Nat) ≠ 20 by decide)) : A175 (28, 0) = A162 (28, 0)).trans f170
  have f183 : A175 (29, 0) = some (q92, .inl (cI, 96, .inl (fun _ => 0))) := (by rw [eA175]; exact gU_n (gne (show (29 : Nat) ≠ 20 by decide)) : A175 (29, 0) = A162 (29, 0)).trans f171
  have f184 : A175 (30, 0) = some (q113, .inl (cI, 96, .inl (fun _ => 0))) := (by rw [eA175]; exact gU_n (gne (show (30 : Nat) ≠ 20 by decide)) : A175 (30, 0) = A162 (30, 0)).trans f172
  have f185 : A175 (31, 0) = some (q136, .inl (cI, 24, .inl (fun _ => 0))) := (by rw [eA175]; exact gU_n (gne (show (31 : Nat) ≠ 20 by decide)) : A175 (31, 0) = A162 (31, 0)).trans f173
  have f186 : A175 (33, 0) = some (q161, .inl (cZ, 4, .inl (fun _ => 0))) := (by rw [eA175]; exact gU_n (gne (show (33 : Nat) ≠ 20 by decide)) : A175 (33, 0) = A162 (33, 0)).trans f174
  have f187 : A175 (20, 0) = some (h, .inr (5, [.ref q1, .ref q8, .int 0, .ref q17, .ref q28, .ref q41, .ref q56, .ref q73, .ref q92, .ref q113, .ref q136, .int 0, .ref q161, .null, .null, .null, .null, .null, .null, .null, .null, .null, .int 0, .int 0])) := by rw [eA175]; exact gU_s
  have glA175 : gL A A175 := by rw [eA175]; exact glA162.U (by decide)
  refine lv_aload_n hx hb d_MM_init_89 rfl (lv_at hl 0 rfl) ?_
  refine lv_sipush (v := 160) hx hb d_MM_init_90 (by decide) ?_
  refine g_newa (atype := .int) (a0 := (160, .inl (fun _ => 0))) (N' := 160) hx hb (hts _ k_67) rfl hK.1 hP hS (34, 0) (hK.1.2 0 _ rfl).2 rfl (by decide) (by decide) (by decide) (by decide) (by decide) d_MM_init_93 (fun q188 H hP hS => ?_)
  refine W.widen (k := 12) (n := 602) (by decide) (by decide) ?_
  obtain ⟨A189, eA189⟩ : ∃ z, z = gU A175 (34, 0) (q188, .inl (cI, 160, .inl (fun _ => 0))) := ⟨_, rfl⟩
  replace hP : gP D classes b A189 H := by rw [eA189]; exact hP
  have f190 : A189 (20, 0) = some (h, .inr (5, [.ref q1, .ref q8, .int 0, .ref q17, .ref q28, .ref q41, .ref q56, .ref q73, .ref q92, .ref q113, .ref q136, .int 0, .ref q161, .null, .null, .null, .null, .null, .null, .null, .null, .null, .int 0, .int 0])) := (by rw [eA189]; exact gU_n (gne (show (20 : Nat) ≠ 34 by decide)) : A189 (20, 0) = A175 (20, 0)).trans f187
  have f191 : A189 (21, 0) = some (q1, .inl (cI, 3, .inl (fun _ => 0))) := (by rw [eA189]; exact gU_n (gne (show (21 : Nat) ≠ 34 by decide)) : A189 (21, 0) = A175 (21, 0)).trans f176
  have f192 : A189 (22, 0) = some (q8, .inl (cI, 3, .inl (fun _ => 0))) := (by rw [eA189]; exact gU_n (gne (show (22 : Nat) ≠ 34 by decide)) : A189 (22, 0) = A175 (22, 0)).trans f177
  have f193 : A189 (24, 0) = some (q17, .inl (cI, 24, .inl (fun _ => 0))) := (by rw [eA189]; exact gU_n (gne (show (24 : Nat) ≠ 34 by decide)) : A189 (24, 0) = A175 (24, 0)).trans f178
  have f194 : A189 (25, 0) = some (q28, .inl (cI, 24, .inl (fun _ => 0))) := (by rw [eA189]; exact gU_n (gne (show (25 : Nat) ≠ 34 by decide)) : A189 (25, 0) = A175 (25, 0)).trans f179
  have f195 : A189 (26, 0) = some (q41, .inl (cZ, 24, .inl (fun _ => 0))) := (by rw [eA189]; exact gU_n (gne (show (26 : Nat) ≠ 34 by decide)) : A189 (26, 0) = A175 (26, 0)).trans f180
  have f196 : A189 (27, 0) = some (q56, .inl (cI, 72, .inl (fun _ => 0))) := (by rw [eA189]; exact gU_n (gne (show (27 : Nat) ≠ 34 by decide)) : A189 (27, 0) = A175 (27, 0)).trans f181
  have f197 : A189 (28, 0) = some (q73, .inl (cI, 72, .inl (fun _ => 0))) := (by rw [eA189]; exact gU_n (gne (show (28 : Nat) ≠ 34 by decide)) : A189 (28, 0) = A175 (28, 0)).trans f182
  have f198 : A189 (29, 0) = some (q92, .inl (cI, 96, .inl (fun _ => 0))) := (by rw [eA189]; exact gU_n (gne (show (29 : Nat) ≠ 34 by decide)) : A189 (29, 0) = A175 (29, 0)).trans f183
  have f199 : A189 (30, 0) = some (q113, .inl (cI, 96, .inl (fun _ => 0))) := (by rw [eA189]; exact gU_n (gne (show (30 : Nat) ≠ 34 by decide)) : A189 (30, 0) = A175 (30, 0)).trans f184
  have f200 : A189 (31, 0) = some (q136, .inl (cI, 24, .inl (fun _ => 0))) := (by rw [eA189]; exact gU_n (gne (show (31 : Nat) ≠ 34 by decide)) : A189 (31, 0) = A175 (31, 0)).trans f185
  have f201 : A189 (33, 0) = some (q161, .inl (cZ, 4, .inl (fun _ => 0))) := (by rw [eA189]; exact gU_n (gne (show (33 : Nat) ≠ 34 by decide)) : A189 (33, 0) = A175 (33, 0)).trans f186
  have f202 : A189 (34, 0) = some (q188, .inl (cI, 160, .inl (fun _ => 0))) := by rw [eA189]; exact gU_s
  have glA189 : gL A A189 := by rw [eA189]; exact glA175.U (by decide)
  refine g_putF (ty := (.array .int)) (v := .ref q188) hx hb hts i_MM t_MM t_MM_ok n_MM hown hK.1 hP hS f190 rfl 13 (by decide) (hts _ k_456) (fun _ h9 => h9) rfl hnm rfl (by decide +kernel) rfl rfl (Nat.le_of_ble_eq_true rfl) d_MM_init_95 (fun H locs hP hS => ?_)
  obtain ⟨A203, eA203⟩ : ∃ z, z = gU A189 (20, 0) (h, .inr (5, [.ref q1, .ref q8, .int 0, .ref q17, .ref q28, .ref q41, .ref q56, .ref q73, .ref q92, .ref q113, .ref q136, .int 0, .ref q161, .ref q188, .null, .null, .null, .null, .null, .null, .null, .null, .int 0, .int 0])) := ⟨_, rfl⟩
  replace hP : gP D classes b A203 H := by rw [eA203]; exact hP
  have f204 : A203 (21, 0) = some (q1, .inl (cI, 3, .inl (fun _ => 0))) := (by rw [eA203]; exact gU_n (gne (show (21 : Nat) ≠ 20 by decide)) : A203 (21, 0) = A189 (21, 0)).trans f191
  have f205 : A203 (22, 0) = some (q8, .inl (cI, 3, .inl (fun _ => 0))) := (by rw [eA203]; exact gU_n (gne (show (22 : Nat) ≠ 20 by decide)) : A203 (22, 0) = A189 (22, 0)).trans f192
  have f206 : A203 (24, 0) = some (q17, .inl (cI, 24, .inl (fun _ => 0))) := (by rw [eA203]; exact gU_n (gne (show (24 : Nat) ≠ 20 by decide)) : A203 (24, 0) = A189 (24, 0)).trans f193
  have f207 : A203 (25, 0) = some (q28, .inl (cI, 24, .inl (fun _ => 0))) := (by rw [eA203]; exact gU_n (gne (show (25 : Nat) ≠ 20 by decide)) : A203 (25, 0) = A189 (25, 0)).trans f194
  have f208 : A203 (26, 0) = some (q41, .inl (cZ, 24, .inl (fun _ => 0))) := (by rw [eA203]; exact gU_n (gne (show (26 : Nat) ≠ 20 by decide)) : A203 (26, 0) = A189 (26, 0)).trans f195
  have f209 : A203 (27, 0) = some (q56, .inl (cI, 72, .inl (fun _ => 0))) := (by rw [eA203]; exact gU_n (gne (show (27 : Nat) ≠ 20 by decide)) : A203 (27, 0) = A189 (27, 0)).trans f196
  have f210 : A203 (28, 0) = some (q73, .inl (cI, 72, .inl (fun _ => 0))) := (by rw [eA203]; exact gU_n (gne (show (28 : Nat) ≠ 20 by decide)) : A203 (28, 0) = A189 (28, 0)).trans f197
  have f211 : A203 (29, 0) = some (q92, .inl (cI, 96, .inl (fun _ => 0))) := (by rw [eA203]; exact gU_n (gne (show (29 : Nat) ≠ 20 by decide)) : A203 (29, 0) = A189 (29, 0)).trans f198
  have f212 : A203 (30, 0) = some (q113, .inl (cI, 96, .inl (fun _ => 0))) := (by rw [eA203]; exact gU_n (gne (show (30 : Nat) ≠ 20 by decide)) : A203 (30, 0) = A189 (30, 0)).trans f199
  have f213 : A203 (31, 0) = some (q136, .inl (cI, 24, .inl (fun _ => 0))) := (by rw [eA203]; exact gU_n (gne (show (31 : Nat) ≠ 20 by decide)) : A203 (31, 0) = A189 (31, 0)).trans f200
  have f214 : A203 (33, 0) = some (q161, .inl (cZ, 4, .inl (fun _ => 0))) := (by rw [eA203]; exact gU_n (gne (show (33 : Nat) ≠ 20 by decide)) : A203 (33, 0) = A189 (33, 0)).trans f201
  have f215 : A203 (34, 0) = some (q188, .inl (cI, 160, .inl (fun _ => 0))) := (by rw [eA203]; exact gU_n (gne (show (34 : Nat) ≠ 20 by decide)) : A203 (34, 0) = A189 (34, 0)).trans f202
  have f216 : A203 (20, 0) = some (h, .inr (5, [.ref q1, .ref q8, .int 0, .ref q17, .ref q28, .ref q41, .ref q56, .ref q73, .ref q92, .ref q113, .ref q136, .int 0, .ref q161, .ref q188, .null, .null, .null, .null, .null, .null, .null, .null, .int 0, .int 0])) := by rw [eA203]; exact gU_s
  have glA203 : gL A A203 := by rw [eA203]; exact glA189.U (by decide)
  refine lv_aload_n hx hb d_MM_init_98 rfl (lv_at hl 0 rfl) ?_
  refine lv_sipush (v := 160) hx hb d_MM_init_99 (by decide) ?_
  refine g_newa (atype := .int) (a0 := (160, .inl (fun _ => 0))) (N' := 160) hx hb (hts _ k_67) rfl hK.1 hP hS (35, 0) (hK.1.2 0 _ rfl).2 rfl (by decide) (by decide) (by decide) (by decide) (by decide) d_MM_init_102 (fun q217 H hP hS => ?_)
  refine W.widen (k := 13) (n := 762) (by decide) (by decide) ?_
  obtain ⟨A218, eA218⟩ : ∃ z, z = gU A203 (35, 0) (q217, .inl (cI, 160, .inl (fun _ => 0))) := ⟨_, rfl⟩
  replace hP : gP D classes b A218 H := by rw [eA218]; exact hP
  have f219 : A218 (20, 0) = some (h, .inr (5, [.ref q1, .ref q8, .int 0, .ref q17, .ref q28, .ref q41, .ref q56, .ref q73, .ref q92, .ref q113, .ref q136, .int 0, .ref q161, .ref q188, .null, .null, .null, .null, .null, .null, .null, .null, .int 0, .int 0])) := (by rw [eA218]; exact gU_n (gne (show (20 : Nat) ≠ 35 by decide)) : A218 (20, 0) = A203 (20, 0)).trans f216
  have f220 : A218 (21, 0) = some (q1, .inl (cI, 3, .inl (fun _ => 0))) := (by rw [eA218]; exact gU_n (gne (show (21 : Nat) ≠ 35 by decide)) : A218 (21, 0) = A203 (21, 0)).trans f204
  have f221 : A218 (22, 0) = some (q8, .inl (cI, 3, .inl (fun _ => 0))) := (by rw [eA218]; exact gU_n (gne (show (22 : Nat) ≠ 35 by decide)) : A218 (22, 0) = A203 (22, 0)).trans f205
  have f222 : A218 (24, 0) = some (q17, .inl (cI, 24, .inl (fun _ => 0))) := (by rw [eA218]; exact gU_n (gne (show (24 : Nat) ≠ 35 by decide)) : A218 (24, 0) = A203 (24, 0)).trans f206
  have f223 : A218 (25, 0) = some (q28, .inl (cI, 24, .inl (fun _ => 0))) := (by rw [eA218]; exact gU_n (gne (show (25 : Nat) ≠ 35 by decide)) : A218 (25, 0) = A203 (25, 0)).trans f207
  have f224 : A218 (26, 0) = some (q41, .inl (cZ, 24, .inl (fun _ => 0))) := (by rw [eA218]; exact gU_n (gne (show (26 : Nat) ≠ 35 by decide)) : A218 (26, 0) = A203 (26, 0)).trans f208
  have f225 : A218 (27, 0) = some (q56, .inl (cI, 72, .inl (fun _ => 0))) := (by rw [eA218]; exact gU_n (gne (show (27 : Nat) ≠ 35 by decide)) : A218 (27, 0) = A203 (27, 0)).trans f209
  have f226 : A218 (28, 0) = some (q73, .inl (cI, 72, .inl (fun _ => 0))) := (by rw [eA218]; exact gU_n (gne (show (28 : Nat) ≠ 35 by decide)) : A218 (28, 0) = A203 (28, 0)).trans f210
  have f227 : A218 (29, 0) = some (q92, .inl (cI, 96, .inl (fun _ => 0))) := (by rw [eA218]; exact gU_n (gne (show (29 : Nat) ≠ 35 by decide)) : A218 (29, 0) = A203 (29, 0)).trans f211
  have f228 : A218 (30, 0) = some (q113, .inl (cI, 96, .inl (fun _ => 0))) := (by rw [eA218]; exact gU_n (gne (show (30 : Nat) ≠ 35 by decide)) : A218 (30, 0) = A203 (30, 0)).trans f212
  have f229 : A218 (31, 0) = some (q136, .inl (cI, 24, .inl (fun _ => 0))) := (by rw [eA218]; exact gU_n (gne (show (31 : Nat) ≠ 35 by decide)) : A218 (31, 0) = A203 (31, 0)).trans f213
  have f230 : A218 (33, 0) = some (q161, .inl (cZ, 4, .inl (fun _ => 0))) := (by rw [eA218]; exact gU_n (gne (show (33 : Nat) ≠ 35 by decide)) : A218 (33, 0) = A203 (33, 0)).trans f214
  have f231 : A218 (34, 0) = some (q188, .inl (cI, 160, .inl (fun _ => 0))) := (by rw [eA218]; exact gU_n (gne (show (34 : Nat) ≠ 35 by decide)) : A218 (34, 0) = A203 (34, 0)).trans f215
  have f232 : A218 (35, 0) = some (q217, .inl (cI, 160, .inl (fun _ => 0))) := by rw [eA218]; exact gU_s
  have glA218 : gL A A218 := by rw [eA218]; exact glA203.U (by decide)
  refine g_putF (ty := (.array .int)) (v := .ref q217) hx hb hts i_MM t_MM t_MM_ok n_MM hown hK.1 hP hS f219 rfl 14 (by decide) (hts _ k_457) (fun _ h9 => h9) rfl hnm rfl (by decide +kernel) rfl rfl (Nat.le_of_ble_eq_true rfl) d_MM_init_104 (fun H locs hP hS => ?_)
  obtain ⟨A233, eA233⟩ : ∃ z, z = gU A218 (20, 0) (h, .inr (5, [.ref q1, .ref q8, .int 0, .ref q17, .ref q28, .ref q41, .ref q56, .ref q73, .ref q92, .ref q113, .ref q136, .int 0, .ref q161, .ref q188, .ref q217, .null, .null, .null, .null, .null, .null, .null, .int 0, .int 0])) := ⟨_, rfl⟩
  replace hP : gP D classes b A233 H := by rw [eA233]; exact hP
  have f234 : A233 (21, 0) = some (q1, .inl (cI, 3, .inl (fun _ => 0))) := (by rw [eA233]; exact gU_n (gne (show (21 : Nat) ≠ 20 by decide)) : A233 (21, 0) = A218 (21, 0)).trans f220
  have f235 : A233 (22, 0) = some (q8, .inl (cI, 3, .inl (fun _ => 0))) := (by rw [eA233]; exact gU_n (gne (show (22 : Nat) ≠ 20 by decide)) : A233 (22, 0) = A218 (22, 0)).trans f221
  have f236 : A233 (24, 0) = some (q17, .inl (cI, 24, .inl (fun _ => 0))) := (by rw [eA233]; exact gU_n (gne (show (24 : Nat) ≠ 20 by decide)) : A233 (24, 0) = A218 (24, 0)).trans f222
  have f237 : A233 (25, 0) = some (q28, .inl (cI, 24, .inl (fun _ => 0))) := (by rw [eA233]; exact gU_n (gne (show (25 : Nat) ≠ 20 by decide)) : A233 (25, 0) = A218 (25, 0)).trans f223
  have f238 : A233 (26, 0) = some (q41, .inl (cZ, 24, .inl (fun _ => 0))) := (by rw [eA233]; exact gU_n (gne (show (26 : Nat) ≠ 20 by decide)) : A233 (26, 0) = A218 (26, 0)).trans f224
  have f239 : A233 (27, 0) = some (q56, .inl (cI, 72, .inl (fun _ => 0))) := (by rw [eA233]; exact gU_n (gne (show (27 : Nat) ≠ 20 by decide)) : A233 (27, 0) = A218 (27, 0)).trans f225
  have f240 : A233 (28, 0) = some (q73, .inl (cI, 72, .inl (fun _ => 0))) := (by rw [eA233]; exact gU_n (gne (show (28 : Nat) ≠ 20 by decide)) : A233 (28, 0) = A218 (28, 0)).trans f226
  have f241 : A233 (29, 0) = some (q92, .inl (cI, 96, .inl (fun _ => 0))) := (by rw [eA233]; exact gU_n (gne (show (29 : Nat) ≠ 20 by decide)) : A233 (29, 0) = A218 (29, 0)).trans f227
  have f242 : A233 (30, 0) = some (q113, .inl (cI, 96, .inl (fun _ => 0))) := (by rw [eA233]; exact gU_n (gne (show (30 : Nat) ≠ 20 by decide)) : A233 (30, 0) = A218 (30, 0)).trans f228
  have f243 : A233 (31, 0) = some (q136, .inl (cI, 24, .inl (fun _ => 0))) := (by rw [eA233]; exact gU_n (gne (show (31 : Nat) ≠ 20 by decide)) : A233 (31, 0) = A218 (31, 0)).trans f229
  have f244 : A233 (33, 0) = some (q161, .inl (cZ, 4, .inl (fun _ => 0))) := (by rw [eA233]; exact gU_n (gne (show (33 : Nat) ≠ 20 by decide)) : A233 (33, 0) = A218 (33, 0)).trans f230
  have f245 : A233 (34, 0) = some (q188, .inl (cI, 160, .inl (fun _ => 0))) := (by rw [eA233]; exact gU_n (gne (show (34 : Nat) ≠ 20 by decide)) : A233 (34, 0) = A218 (34, 0)).trans f231
  have f246 : A233 (35, 0) = some (q217, .inl (cI, 160, .inl (fun _ => 0))) := (by rw [eA233]; exact gU_n (gne (show (35 : Nat) ≠ 20 by decide)) : A233 (35, 0) = A218 (35, 0)).trans f232
  have f247 : A233 (20, 0) = some (h, .inr (5, [.ref q1, .ref q8, .int 0, .ref q17, .ref q28, .ref q41, .ref q56, .ref q73, .ref q92, .ref q113, .ref q136, .int 0, .ref q161, .ref q188, .ref q217, .null, .null, .null, .null, .null, .null, .null, .int 0, .int 0])) := by rw [eA233]; exact gU_s
  have glA233 : gL A A233 := by rw [eA233]; exact glA218.U (by decide)
  refine lv_aload_n hx hb d_MM_init_107 rfl (lv_at hl 0 rfl) ?_
  refine lv_sipush (v := 480) hx hb d_MM_init_108 (by decide) ?_
  refine g_newa (atype := .int) (a0 := (480, .inl (fun _ => 0))) (N' := 480) hx hb (hts _ k_67) rfl hK.1 hP hS (36, 0) (hK.1.2 0 _ rfl).2 rfl (by decide) (by decide) (by decide) (by decide) (by decide) d_MM_init_111 (fun q248 H hP hS => ?_)
  refine W.widen (k := 14) (n := 1242) (by decide) (by decide) ?_
  obtain ⟨A249, eA249⟩ : ∃ z, z = gU A233 (36, 0) (q248, .inl (cI, 480, .inl (fun _ => 0))) := ⟨_, rfl⟩
  replace hP : gP D classes b A249 H := by rw [eA249]; exact hP
  have f250 : A249 (20, 0) = some (h, .inr (5, [.ref q1, .ref q8, .int 0, .ref q17, .ref q28, .ref q41, .ref q56, .ref q73, .ref q92, .ref q113, .ref q136, .int 0, .ref q161, .ref q188, .ref q217, .null, .null, .null, .null, .null, .null, .null, .int 0, .int 0])) := (by rw [eA249]; exact gU_n (gne (show (20 : Nat) ≠ 36 by decide)) : A249 (20, 0) = A233 (20, 0)).trans f247
  have f251 : A249 (21, 0) = some (q1, .inl (cI, 3, .inl (fun _ => 0))) := (by rw [eA249]; exact gU_n (gne (show (21 : Nat) ≠ 36 by decide)) : A249 (21, 0) = A233 (21, 0)).trans f234
  have f252 : A249 (22, 0) = some (q8, .inl (cI, 3, .inl (fun _ => 0))) := (by rw [eA249]; exact gU_n (gne (show (22 : Nat) ≠ 36 by decide)) : A249 (22, 0) = A233 (22, 0)).trans f235
  have f253 : A249 (24, 0) = some (q17, .inl (cI, 24, .inl (fun _ => 0))) := (by rw [eA249]; exact gU_n (gne (show (24 : Nat) ≠ 36 by decide)) : A249 (24, 0) = A233 (24, 0)).trans f236
  have f254 : A249 (25, 0) = some (q28, .inl (cI, 24, .inl (fun _ => 0))) := (by rw [eA249]; exact gU_n (gne (show (25 : Nat) ≠ 36 by decide)) : A249 (25, 0) = A233 (25, 0)).trans f237
  have f255 : A249 (26, 0) = some (q41, .inl (cZ, 24, .inl (fun _ => 0))) := (by rw [eA249]; exact gU_n (gne (show (26 : Nat) ≠ 36 by decide)) : A249 (26, 0) = A233 (26, 0)).trans f238
  have f256 : A249 (27, 0) = some (q56, .inl (cI, 72, .inl (fun _ => 0))) := (by rw [eA249]; exact gU_n (gne (show (27 : Nat) ≠ 36 by decide)) : A249 (27, 0) = A233 (27, 0)).trans f239
  have f257 : A249 (28, 0) = some (q73, .inl (cI, 72, .inl (fun _ => 0))) := (by rw [eA249]; exact gU_n (gne (show (28 : Nat) ≠ 36 by decide)) : A249 (28, 0) = A233 (28, 0)).trans f240
  have f258 : A249 (29, 0) = some (q92, .inl (cI, 96, .inl (fun _ => 0))) := (by rw [eA249]; exact gU_n (gne (show (29 : Nat) ≠ 36 by decide)) : A249 (29, 0) = A233 (29, 0)).trans f241
  have f259 : A249 (30, 0) = some (q113, .inl (cI, 96, .inl (fun _ => 0))) := (by rw [eA249]; exact gU_n (gne (show (30 : Nat) ≠ 36 by decide)) : A249 (30, 0) = A233 (30, 0)).trans f242
  have f260 : A249 (31, 0) = some (q136, .inl (cI, 24, .inl (fun _ => 0))) := (by rw [eA249]; exact gU_n (gne (show (31 : Nat) ≠ 36 by decide)) : A249 (31, 0) = A233 (31, 0)).trans f243
  have f261 : A249 (33, 0) = some (q161, .inl (cZ, 4, .inl (fun _ => 0))) := (by rw [eA249]; exact gU_n (gne (show (33 : Nat) ≠ 36 by decide)) : A249 (33, 0) = A233 (33, 0)).trans f244
  have f262 : A249 (34, 0) = some (q188, .inl (cI, 160, .inl (fun _ => 0))) := (by rw [eA249]; exact gU_n (gne (show (34 : Nat) ≠ 36 by decide)) : A249 (34, 0) = A233 (34, 0)).trans f245
  have f263 : A249 (35, 0) = some (q217, .inl (cI, 160, .inl (fun _ => 0))) := (by rw [eA249]; exact gU_n (gne (show (35 : Nat) ≠ 36 by decide)) : A249 (35, 0) = A233 (35, 0)).trans f246
  have f264 : A249 (36, 0) = some (q248, .inl (cI, 480, .inl (fun _ => 0))) := by rw [eA249]; exact gU_s
  have glA249 : gL A A249 := by rw [eA249]; exact glA233.U (by decide)
  refine g_putF (ty := (.array .int)) (v := .ref q248) hx hb hts i_MM t_MM t_MM_ok n_MM hown hK.1 hP hS f250 rfl 15 (by decide) (hts _ k_458) (fun _ h9 => h9) rfl hnm rfl (by decide +kernel) rfl rfl (Nat.le_of_ble_eq_true rfl) d_MM_init_113 (fun H locs hP hS => ?_)
  obtain ⟨A265, eA265⟩ : ∃ z, z = gU A249 (20, 0) (h, .inr (5, [.ref q1, .ref q8, .int 0, .ref q17, .ref q28, .ref q41, .ref q56, .ref q73, .ref q92, .ref q113, .ref q136, .int 0, .ref q161, .ref q188, .ref q217, .ref q248, .null, .null, .null, .null, .null, .null, .int 0, .int 0])) := ⟨_, rfl⟩
  replace hP : gP D classes b A265 H := by rw [eA265]; exact hP
  have f266 : A265 (21, 0) = some (q1, .inl (cI, 3, .inl (fun _ => 0))) := (by rw [eA265]; exact gU_n (gne (show (21 : Nat) ≠ 20 by decide)) : A265 (21, 0) = A249 (21, 0)).trans f251
  have f267 : A265 (22, 0) = some (q8, .inl (cI, 3, .inl (fun _ => 0))) := (by rw [eA265]; exact gU_n (gne (show (22 : Nat) ≠ 20 by decide)) : A265 (22, 0) = A249 (22, 0)).trans f252
  have f268 : A265 (24, 0) = some (q17, .inl (cI, 24, .inl (fun _ => 0))) := (by rw [eA265]; exact gU_n (gne (show (24 : Nat) ≠ 20 by decide)) : A265 (24, 0) = A249 (24, 0)).trans f253
  have f269 : A265 (25, 0) = some (q28, .inl (cI, 24, .inl (fun _ => 0))) := (by rw [eA265]; exact gU_n (gne (show (25 : Nat) ≠ 20 by decide)) : A265 (25, 0) = A249 (25, 0)).trans f254
  have f270 : A265 (26, 0) = some (q41, .inl (cZ, 24, .inl (fun _ => 0))) := (by rw [eA265]; exact gU_n (gne (show (26 : Nat) ≠ 20 by decide)) : A265 (26, 0) = A249 (26, 0)).trans f255
  have f271 : A265 (27, 0) = some (q56, .inl (cI, 72, .inl (fun _ => 0))) := (by rw [eA265]; exact gU_n (gne (show (27 : Nat) ≠ 20 by decide)) : A265 (27, 0) = A249 (27, 0)).trans f256
  have f272 : A265 (28, 0) = some (q73, .inl (cI, 72, .inl (fun _ => 0))) := (by rw [eA265]; exact gU_n (gne (show (28 : Nat) ≠ 20 by decide)) : A265 (28, 0) = A249 (28, 0)).trans f257
  have f273 : A265 (29, 0) = some (q92, .inl (cI, 96, .inl (fun _ => 0))) := (by rw [eA265]; exact gU_n (gne (show (29 : Nat) ≠ 20 by decide)) : A265 (29, 0) = A249 (29, 0)).trans f258
  have f274 : A265 (30, 0) = some (q113, .inl (cI, 96, .inl (fun _ => 0))) := (by rw [eA265]; exact gU_n (gne (show (30 : Nat) ≠ 20 by decide)) : A265 (30, 0) = A249 (30, 0)).trans f259
  have f275 : A265 (31, 0) = some (q136, .inl (cI, 24, .inl (fun _ => 0))) := (by rw [eA265]; exact gU_n (gne (show (31 : Nat) ≠ 20 by decide)) : A265 (31, 0) = A249 (31, 0)).trans f260
  have f276 : A265 (33, 0) = some (q161, .inl (cZ, 4, .inl (fun _ => 0))) := (by rw [eA265]; exact gU_n (gne (show (33 : Nat) ≠ 20 by decide)) : A265 (33, 0) = A249 (33, 0)).trans f261
  have f277 : A265 (34, 0) = some (q188, .inl (cI, 160, .inl (fun _ => 0))) := (by rw [eA265]; exact gU_n (gne (show (34 : Nat) ≠ 20 by decide)) : A265 (34, 0) = A249 (34, 0)).trans f262
  have f278 : A265 (35, 0) = some (q217, .inl (cI, 160, .inl (fun _ => 0))) := (by rw [eA265]; exact gU_n (gne (show (35 : Nat) ≠ 20 by decide)) : A265 (35, 0) = A249 (35, 0)).trans f263
  have f279 : A265 (36, 0) = some (q248, .inl (cI, 480, .inl (fun _ => 0))) := (by rw [eA265]; exact gU_n (gne (show (36 : Nat) ≠ 20 by decide)) : A265 (36, 0) = A249 (36, 0)).trans f264
  have f280 : A265 (20, 0) = some (h, .inr (5, [.ref q1, .ref q8, .int 0, .ref q17, .ref q28, .ref q41, .ref q56, .ref q73, .ref q92, .ref q113, .ref q136, .int 0, .ref q161, .ref q188, .ref q217, .ref q248, .null, .null, .null, .null, .null, .null, .int 0, .int 0])) := by rw [eA265]; exact gU_s
  have glA265 : gL A A265 := by rw [eA265]; exact glA249.U (by decide)
  refine lv_aload_n hx hb d_MM_init_116 rfl (lv_at hl 0 rfl) ?_
  refine lv_sipush (v := 160) hx hb d_MM_init_117 (by decide) ?_
  refine g_newa (atype := .int) (a0 := (160, .inl (fun _ => 0))) (N' := 160) hx hb (hts _ k_67) rfl hK.1 hP hS (37, 0) (hK.1.2 0 _ rfl).2 rfl (by decide) (by decide) (by decide) (by decide) (by decide) d_MM_init_120 (fun q281 H hP hS => ?_)
  refine W.widen (k := 15) (n := 1402) (by decide) (by decide) ?_
  obtain ⟨A282, eA282⟩ : ∃ z, z = gU A265 (37, 0) (q281, .inl (cI, 160, .inl (fun _ => 0))) := ⟨_, rfl⟩
  replace hP : gP D classes b A282 H := by rw [eA282]; exact hP
  have f283 : A282 (20, 0) = some (h, .inr (5, [.ref q1, .ref q8, .int 0, .ref q17, .ref q28, .ref q41, .ref q56, .ref q73, .ref q92, .ref q113, .ref q136, .int 0, .ref q161, .ref q188, .ref q217, .ref q248, .null, .null, .null, .null, .null, .null, .int 0, .int 0])) := (by rw [eA282]; exact gU_n (gne (show (20 : Nat) ≠ 37 by decide)) : A282 (20, 0) = A265 (20, 0)).trans f280
  have f284 : A282 (21, 0) = some (q1, .inl (cI, 3, .inl (fun _ => 0))) := (by rw [eA282]; exact gU_n (gne (show (21 : Nat) ≠ 37 by decide)) : A282 (21, 0) = A265 (21, 0)).trans f266
  have f285 : A282 (22, 0) = some (q8, .inl (cI, 3, .inl (fun _ => 0))) := (by rw [eA282]; exact gU_n (gne (show (22 : Nat) ≠ 37 by decide)) : A282 (22, 0) = A265 (22, 0)).trans f267
  have f286 : A282 (24, 0) = some (q17, .inl (cI, 24, .inl (fun _ => 0))) := (by rw [eA282]; exact gU_n (gne (show (24 : Nat) ≠ 37 by decide)) : A282 (24, 0) = A265 (24, 0)).trans f268
  have f287 : A282 (25, 0) = some (q28, .inl (cI, 24, .inl (fun _ => 0))) := (by rw [eA282]; exact gU_n (gne (show (25 : Nat) ≠ 37 by decide)) : A282 (25, 0) = A265 (25, 0)).trans f269
  have f288 : A282 (26, 0) = some (q41, .inl (cZ, 24, .inl (fun _ => 0))) := (by rw [eA282]; exact gU_n (gne (show (26 : Nat) ≠ 37 by decide)) : A282 (26, 0) = A265 (26, 0)).trans f270
  have f289 : A282 (27, 0) = some (q56, .inl (cI, 72, .inl (fun _ => 0))) := (by rw [eA282]; exact gU_n (gne (show (27 : Nat) ≠ 37 by decide)) : A282 (27, 0) = A265 (27, 0)).trans f271
  have f290 : A282 (28, 0) = some (q73, .inl (cI, 72, .inl (fun _ => 0))) := (by rw [eA282]; exact gU_n (gne (show (28 : Nat) ≠ 37 by decide)) : A282 (28, 0) = A265 (28, 0)).trans f272
  have f291 : A282 (29, 0) = some (q92, .inl (cI, 96, .inl (fun _ => 0))) := (by rw [eA282]; exact gU_n (gne (show (29 : Nat) ≠ 37 by decide)) : A282 (29, 0) = A265 (29, 0)).trans f273
  have f292 : A282 (30, 0) = some (q113, .inl (cI, 96, .inl (fun _ => 0))) := (by rw [eA282]; exact gU_n (gne (show (30 : Nat) ≠ 37 by decide)) : A282 (30, 0) = A265 (30, 0)).trans f274
  have f293 : A282 (31, 0) = some (q136, .inl (cI, 24, .inl (fun _ => 0))) := (by rw [eA282]; exact gU_n (gne (show (31 : Nat) ≠ 37 by decide)) : A282 (31, 0) = A265 (31, 0)).trans f275
  have f294 : A282 (33, 0) = some (q161, .inl (cZ, 4, .inl (fun _ => 0))) := (by rw [eA282]; exact gU_n (gne (show (33 : Nat) ≠ 37 by decide)) : A282 (33, 0) = A265 (33, 0)).trans f276
  have f295 : A282 (34, 0) = some (q188, .inl (cI, 160, .inl (fun _ => 0))) := (by rw [eA282]; exact gU_n (gne (show (34 : Nat) ≠ 37 by decide)) : A282 (34, 0) = A265 (34, 0)).trans f277
  have f296 : A282 (35, 0) = some (q217, .inl (cI, 160, .inl (fun _ => 0))) := (by rw [eA282]; exact gU_n (gne (show (35 : Nat) ≠ 37 by decide)) : A282 (35, 0) = A265 (35, 0)).trans f278
  have f297 : A282 (36, 0) = some (q248, .inl (cI, 480, .inl (fun _ => 0))) := (by rw [eA282]; exact gU_n (gne (show (36 : Nat) ≠ 37 by decide)) : A282 (36, 0) = A265 (36, 0)).trans f279
  have f298 : A282 (37, 0) = some (q281, .inl (cI, 160, .inl (fun _ => 0))) := by rw [eA282]; exact gU_s
  have glA282 : gL A A282 := by rw [eA282]; exact glA265.U (by decide)
  refine g_putF (ty := (.array .int)) (v := .ref q281) hx hb hts i_MM t_MM t_MM_ok n_MM hown hK.1 hP hS f283 rfl 16 (by decide) (hts _ k_459) (fun _ h9 => h9) rfl hnm rfl (by decide +kernel) rfl rfl (Nat.le_of_ble_eq_true rfl) d_MM_init_122 (fun H locs hP hS => ?_)
  obtain ⟨A299, eA299⟩ : ∃ z, z = gU A282 (20, 0) (h, .inr (5, [.ref q1, .ref q8, .int 0, .ref q17, .ref q28, .ref q41, .ref q56, .ref q73, .ref q92, .ref q113, .ref q136, .int 0, .ref q161, .ref q188, .ref q217, .ref q248, .ref q281, .null, .null, .null, .null, .null, .int 0, .int 0])) := ⟨_, rfl⟩
  replace hP : gP D classes b A299 H := by rw [eA299]; exact hP
  have f300 : A299 (21, 0) = some (q1, .inl (cI, 3, .inl (fun _ => 0))) := (by rw [eA299]; exact gU_n (gne (show (21 : Nat) ≠ 20 by decide)) : A299 (21, 0) = A282 (21, 0)).trans f284
  have f301 : A299 (22, 0) = some (q8, .inl (cI, 3, .inl (fun _ => 0))) := (by rw [eA299]; exact gU_n (gne (show (22 : Nat) ≠ 20 by decide)) : A299 (22, 0) = A282 (22, 0)).trans f285
  have f302 : A299 (24, 0) = some (q17, .inl (cI, 24, .inl (fun _ => 0))) := (by rw [eA299]; exact gU_n (gne (show (24 : Nat) ≠ 20 by decide)) : A299 (24, 0) = A282 (24, 0)).trans f286
  have f303 : A299 (25, 0) = some (q28, .inl (cI, 24, .inl (fun _ => 0))) := (by rw [eA299]; exact gU_n (gne (show (25 : Nat) ≠ 20 by decide)) : A299 (25, 0) = A282 (25, 0)).trans f287
  have f304 : A299 (26, 0) = some (q41, .inl (cZ, 24, .inl (fun _ => 0))) := (by rw [eA299]; exact gU_n (gne (show (26 : Nat) ≠ 20 by decide)) : A299 (26, 0) = A282 (26, 0)).trans f288
  have f305 : A299 (27, 0) = some (q56, .inl (cI, 72, .inl (fun _ => 0))) := (by rw [eA299]; exact gU_n (gne (show (27 : Nat) ≠ 20 by decide)) : A299 (27, 0) = A282 (27, 0)).trans f289
  have f306 : A299 (28, 0) = some (q73, .inl (cI, 72, .inl (fun _ => 0))) := (by rw [eA299]; exact gU_n (gne (show (28 : Nat) ≠ 20 by decide)) : A299 (28, 0) = A282 (28, 0)).trans f290
  have f307 : A299 (29, 0) = some (q92, .inl (cI, 96, .inl (fun _ => 0))) := (by rw [eA299]; exact gU_n (gne (show (29 : Nat) ≠ 20 by decide)) : A299 (29, 0) = A282 (29, 0)).trans f291
  have f308 : A299 (30, 0) = some (q113, .inl (cI, 96, .inl (fun _ => 0))) := (by rw [eA299]; exact gU_n (gne (show (30 : Nat) ≠ 20 by decide)) : A299 (30, 0) = A282 (30, 0)).trans f292
  have f309 : A299 (31, 0) = some (q136, .inl (cI, 24, .inl (fun _ => 0))) := (by rw [eA299]; exact gU_n (gne (show (31 : Nat) ≠ 20 by decide)) : A299 (31, 0) = A282 (31, 0)).trans f293
  have f310 : A299 (33, 0) = some (q161, .inl (cZ, 4, .inl (fun _ => 0))) := (by rw [eA299]; exact gU_n (gne (show (33 : Nat) ≠ 20 by decide)) : A299 (33, 0) = A282 (33, 0)).trans f294
  have f311 : A299 (34, 0) = some (q188, .inl (cI, 160, .inl (fun _ => 0))) := (by rw [eA299]; exact gU_n (gne (show (34 : Nat) ≠ 20 by decide)) : A299 (34, 0) = A282 (34, 0)).trans f295
  have f312 : A299 (35, 0) = some (q217, .inl (cI, 160, .inl (fun _ => 0))) := (by rw [eA299]; exact gU_n (gne (show (35 : Nat) ≠ 20 by decide)) : A299 (35, 0) = A282 (35, 0)).trans f296
  have f313 : A299 (36, 0) = some (q248, .inl (cI, 480, .inl (fun _ => 0))) := (by rw [eA299]; exact gU_n (gne (show (36 : Nat) ≠ 20 by decide)) : A299 (36, 0) = A282 (36, 0)).trans f297
  have f314 : A299 (37, 0) = some (q281, .inl (cI, 160, .inl (fun _ => 0))) := (by rw [eA299]; exact gU_n (gne (show (37 : Nat) ≠ 20 by decide)) : A299 (37, 0) = A282 (37, 0)).trans f298
  have f315 : A299 (20, 0) = some (h, .inr (5, [.ref q1, .ref q8, .int 0, .ref q17, .ref q28, .ref q41, .ref q56, .ref q73, .ref q92, .ref q113, .ref q136, .int 0, .ref q161, .ref q188, .ref q217, .ref q248, .ref q281, .null, .null, .null, .null, .null, .int 0, .int 0])) := by rw [eA299]; exact gU_s
  have glA299 : gL A A299 := by rw [eA299]; exact glA282.U (by decide)
  refine lv_aload_n hx hb d_MM_init_125 rfl (lv_at hl 0 rfl) ?_
  refine lv_sipush (v := 160) hx hb d_MM_init_126 (by decide) ?_
  refine g_newa (atype := .int) (a0 := (160, .inl (fun _ => 0))) (N' := 160) hx hb (hts _ k_67) rfl hK.1 hP hS (38, 0) (hK.1.2 0 _ rfl).2 rfl (by decide) (by decide) (by decide) (by decide) (by decide) d_MM_init_129 (fun q316 H hP hS => ?_)
  refine W.widen (k := 16) (n := 1562) (by decide) (by decide) ?_
  obtain ⟨A317, eA317⟩ : ∃ z, z = gU A299 (38, 0) (q316, .inl (cI, 160, .inl (fun _ => 0))) := ⟨_, rfl⟩
  replace hP : gP D classes b A317 H := by rw [eA317]; exact hP
  have f318 : A317 (20, 0) = some (h, .inr (5, [.ref q1, .ref q8, .int 0, .ref q17, .ref q28, .ref q41, .ref q56, .ref q73, .ref q92, .ref q113, .ref q136, .int 0, .ref q161, .ref q188, .ref q217, .ref q248, .ref q281, .null, .null, .null, .null, .null, .int 0, .int 0])) := (by rw [eA317]; exact gU_n (gne (show (20 : Nat) ≠ 38 by decide)) : A317 (20, 0) = A299 (20, 0)).trans f315
  have f319 : A317 (21, 0) = some (q1, .inl (cI, 3, .inl (fun _ => 0))) := (by rw [eA317]; exact gU_n (gne (show (21 : Nat) ≠ 38 by decide)) : A317 (21, 0) = A299 (21, 0)).trans f300
  have f320 : A317 (22, 0) = some (q8, .inl (cI, 3, .inl (fun _ => 0))) := (by rw [eA317]; exact gU_n (gne (show (22 : Nat) ≠ 38 by decide)) : A317 (22, 0) = A299 (22, 0)).trans f301
  have f321 : A317 (24, 0) = some (q17, .inl (cI, 24, .inl (fun _ => 0))) := (by rw [eA317]; exact gU_n (gne (show (24 : Nat) ≠ 38 by decide)) : A317 (24, 0) = A299 (24, 0)).trans f302
  have f322 : A317 (25, 0) = some (q28, .inl (cI, 24, .inl (fun _ => 0))) := (by rw [eA317]; exact gU_n (gne (show (25 : Nat) ≠ 38 by decide)) : A317 (25, 0) = A299 (25, 0)).trans f303
  have f323 : A317 (26, 0) = some (q41, .inl (cZ, 24, .inl (fun _ => 0))) := (by rw [eA317]; exact gU_n (gne (show (26 : Nat) ≠ 38 by decide)) : A317 (26, 0) = A299 (26, 0)).trans f304
  have f324 : A317 (27, 0) = some (q56, .inl (cI, 72, .inl (fun _ => 0))) := (by rw [eA317]; exact gU_n (gne (show (27 : Nat) ≠ 38 by decide)) : A317 (27, 0) = A299 (27, 0)).trans f305
  have f325 : A317 (28, 0) = some (q73, .inl (cI, 72, .inl (fun _ => 0))) := (by rw [eA317]; exact gU_n (gne (show (28 : Nat) ≠ 38 by decide)) : A317 (28, 0) = A299 (28, 0)).trans f306
  have f326 : A317 (29, 0) = some (q92, .inl (cI, 96, .inl (fun _ => 0))) := (by rw [eA317]; exact gU_n (gne (show (29 : Nat) ≠ 38 by decide)) : A317 (29, 0) = A299 (29, 0)).trans f307
  have f327 : A317 (30, 0) = some (q113, .inl (cI, 96, .inl (fun _ => 0))) := (by rw [eA317]; exact gU_n (gne (show (30 : Nat) ≠ 38 by decide)) : A317 (30, 0) = A299 (30, 0)).trans f308
  have f328 : A317 (31, 0) = some (q136, .inl (cI, 24, .inl (fun _ => 0))) := (by rw [eA317]; exact gU_n (gne (show (31 : Nat) ≠ 38 by decide)) : A317 (31, 0) = A299 (31, 0)).trans f309
  have f329 : A317 (33, 0) = some (q161, .inl (cZ, 4, .inl (fun _ => 0))) := (by rw [eA317]; exact gU_n (gne (show (33 : Nat) ≠ 38 by decide)) : A317 (33, 0) = A299 (33, 0)).trans f310
  have f330 : A317 (34, 0) = some (q188, .inl (cI, 160, .inl (fun _ => 0))) := (by rw [eA317]; exact gU_n (gne (show (34 : Nat) ≠ 38 by decide)) : A317 (34, 0) = A299 (34, 0)).trans f311
  have f331 : A317 (35, 0) = some (q217, .inl (cI, 160, .inl (fun _ => 0))) := (by rw [eA317]; exact gU_n (gne (show (35 : Nat) ≠ 38 by decide)) : A317 (35, 0) = A299 (35, 0)).trans f312
  have f332 : A317 (36, 0) = some (q248, .inl (cI, 480, .inl (fun _ => 0))) := (by rw [eA317]; exact gU_n (gne (show (36 : Nat) ≠ 38 by decide)) : A317 (36, 0) = A299 (36, 0)).trans f313
  have f333 : A317 (37, 0) = some (q281, .inl (cI, 160, .inl (fun _ => 0))) := (by rw [eA317]; exact gU_n (gne (show (37 : Nat) ≠ 38 by decide)) : A317 (37, 0) = A299 (37, 0)).trans f314
  have f334 : A317 (38, 0) = some (q316, .inl (cI, 160, .inl (fun _ => 0))) := by rw [eA317]; exact gU_s
  have glA317 : gL A A317 := by rw [eA317]; exact glA299.U (by decide)
  refine g_putF (ty := (.array .int)) (v := .ref q316) hx hb hts i_MM t_MM t_MM_ok n_MM hown hK.1 hP hS f318 rfl 17 (by decide) (hts _ k_460) (fun _ h9 => h9) rfl hnm rfl (by decide +kernel) rfl rfl (Nat.le_of_ble_eq_true rfl) d_MM_init_131 (fun H locs hP hS => ?_)
  obtain ⟨A335, eA335⟩ : ∃ z, z = gU A317 (20, 0) (h, .inr (5, [.ref q1, .ref q8, .int 0, .ref q17, .ref q28, .ref q41, .ref q56, .ref q73, .ref q92, .ref q113, .ref q136, .int 0, .ref q161, .ref q188, .ref q217, .ref q248, .ref q281, .ref q316, .null, .null, .null, .null, .int 0, .int 0])) := ⟨_, rfl⟩
  replace hP : gP D classes b A335 H := by rw [eA335]; exact hP
  have f336 : A335 (21, 0) = some (q1, .inl (cI, 3, .inl (fun _ => 0))) := (by rw [eA335]; exact gU_n (gne (show (21 : Nat) ≠ 20 by decide)) : A335 (21, 0) = A317 (21, 0)).trans f319
  have f337 : A335 (22, 0) = some (q8, .inl (cI, 3, .inl (fun _ => 0))) := (by rw [eA335]; exact gU_n (gne (show (22 : Nat) ≠ 20 by decide)) : A335 (22, 0) = A317 (22, 0)).trans f320
  have f338 : A335 (24, 0) = some (q17, .inl (cI, 24, .inl (fun _ => 0))) := (by rw [eA335]; exact gU_n (gne (show (24 : Nat) ≠ 20 by decide)) : A335 (24, 0) = A317 (24, 0)).trans f321
  have f339 : A335 (25, 0) = some (q28, .inl (cI, 24, .inl (fun _ => 0))) := (by rw [eA335]; exact gU_n (gne (show (25 : Nat) ≠ 20 by decide)) : A335 (25, 0) = A317 (25, 0)).trans f322
  have f340 : A335 (26, 0) = some (q41, .inl (cZ, 24, .inl (fun _ => 0))) := (by rw [eA335]; exact gU_n (gne (show (26 : Nat) ≠ 20 by decide)) : A335 (26, 0) = A317 (26, 0)).trans f323
  have f341 : A335 (27, 0) = some (q56, .inl (cI, 72, .inl (fun _ => 0))) := (by rw [eA335]; exact gU_n (gne (show (27 : Nat) ≠ 20 by decide)) : A335 (27, 0) = A317 (27, 0)).trans f324
  have f342 : A335 (28, 0) = some (q73, .inl (cI, 72, .inl (fun _ => 0))) := (by rw [eA335]; exact gU_n (gne (show (28 : Nat) ≠ 20 by decide)) : A335 (28, 0) = A317 (28, 0)).trans f325
  have f343 : A335 (29, 0) = some (q92, .inl (cI, 96, .inl (fun _ => 0))) := (by rw [eA335]; exact gU_n (gne (show (29 : Nat) ≠ 20 by decide)) : A335 (29, 0) = A317 (29, 0)).trans f326
  have f344 : A335 (30, 0) = some (q113, .inl (cI, 96, .inl (fun _ => 0))) := (by rw [eA335]; exact gU_n (gne (show (30 : Nat) ≠ 20 by decide)) : A335 (30, 0) = A317 (30, 0)).trans f327
  have f345 : A335 (31, 0) = some (q136, .inl (cI, 24, .inl (fun _ => 0))) := (by rw [eA335]; exact gU_n (gne (show (31 : Nat) ≠ 20 by decide)) : A335 (31, 0) = A317 (31, 0)).trans f328
  have f346 : A335 (33, 0) = some (q161, .inl (cZ, 4, .inl (fun _ => 0))) := (by rw [eA335]; exact gU_n (gne (show (33 : Nat) ≠ 20 by decide)) : A335 (33, 0) = A317 (33, 0)).trans f329
  have f347 : A335 (34, 0) = some (q188, .inl (cI, 160, .inl (fun _ => 0))) := (by rw [eA335]; exact gU_n (gne (show (34 : Nat) ≠ 20 by decide)) : A335 (34, 0) = A317 (34, 0)).trans f330
  have f348 : A335 (35, 0) = some (q217, .inl (cI, 160, .inl (fun _ => 0))) := (by rw [eA335]; exact gU_n (gne (show (35 : Nat) ≠ 20 by decide)) : A335 (35, 0) = A317 (35, 0)).trans f331
  have f349 : A335 (36, 0) = some (q248, .inl (cI, 480, .inl (fun _ => 0))) := (by rw [eA335]; exact gU_n (gne (show (36 : Nat) ≠ 20 by decide)) : A335 (36, 0) = A317 (36, 0)).trans f332
  have f350 : A335 (37, 0) = some (q281, .inl (cI, 160, .inl (fun _ => 0))) := (by rw [eA335]; exact gU_n (gne (show (37 : Nat) ≠ 20 by decide)) : A335 (37, 0) = A317 (37, 0)).trans f333
  have f351 : A335 (38, 0) = some (q316, .inl (cI, 160, .inl (fun _ => 0))) := (by rw [eA335]; exact gU_n (gne (show (38 : Nat) ≠ 20 by decide)) : A335 (38, 0) = A317 (38, 0)).trans f334
  have f352 : A335 (20, 0) = some (h, .inr (5, [.ref q1, .ref q8, .int 0, .ref q17, .ref q28, .ref q41, .ref q56, .ref q73, .ref q92, .ref q113, .ref q136, .int 0, .ref q161, .ref q188, .ref q217, .ref q248, .ref q281, .ref q316, .null, .null, .null, .null, .int 0, .int 0])) := by rw [eA335]; exact gU_s
  have glA335 : gL A A335 := by rw [eA335]; exact glA317.U (by decide)
  refine lv_aload_n hx hb d_MM_init_134 rfl (lv_at hl 0 rfl) ?_
  refine lv_sipush (v := 160) hx hb d_MM_init_135 (by decide) ?_
  refine g_newa (atype := .int) (a0 := (160, .inl (fun _ => 0))) (N' := 160) hx hb (hts _ k_67) rfl hK.1 hP hS (39, 0) (hK.1.2 0 _ rfl).2 rfl (by decide) (by decide) (by decide) (by decide) (by decide) d_MM_init_138 (fun q353 H hP hS => ?_)
  refine W.widen (k := 17) (n := 1722) (by decide) (by decide) ?_
  obtain ⟨A354, eA354⟩ : ∃ z, z = gU A335 (39, 0) (q353, .inl (cI, 160, .inl (fun _ => 0))) := ⟨_, rfl⟩
  replace hP : gP D classes b A354 H := by rw [eA354]; exact hP
  have f355 : A354 (20, 0) = some (h, .inr (5, [.ref q1, .ref q8, .int 0, .ref q17, .ref q28, .ref q41, .ref q56, .ref q73, .ref q92, .ref q113, .ref q136, .int 0, .ref q161, .ref q188, .ref q217, .ref q248, .ref q281, .ref q316, .null, .null, .null, .null, .int 0, .int 0])) := (by rw [eA354]; exact gU_n (gne (show (20 : Nat) ≠ 39 by decide)) : A354 (20, 0) = A335 (20, 0)).trans f352
  have f356 : A354 (21, 0) = some (q1, .inl (cI, 3, .inl (fun _ => 0))) := (by rw [eA354]; exact gU_n (gne (show (21 : Nat) ≠ 39 by decide)) : A354 (21, 0) = A335 (21, 0)).trans f336
  have f357 : A354 (22, 0) = some (q8, .inl (cI, 3, .inl (fun _ => 0))) := (by rw [eA354]; exact gU_n (gne (show (22 : Nat) ≠ 39 by decide)) : A354 (22, 0) = A335 (22, 0)).trans f337
  have f358 : A354 (24, 0) = some (q17, .inl (cI, 24, .inl (fun _ => 0))) := (by rw [eA354]; exact gU_n (gne (show (24 : Nat) ≠ 39 by decide)) : A354 (24, 0) = A335 (24, 0)).trans f338
  have f359 : A354 (25, 0) = some (q28, .inl (cI, 24, .inl (fun _ => 0))) := (by rw [eA354]; exact gU_n (gne (show (25 : Nat) ≠ 39 by decide)) : A354 (25, 0) = A335 (25, 0)).trans f339
  have f360 : A354 (26, 0) = some (q41, .inl (cZ, 24, .inl (fun _ => 0))) := (by rw [eA354]; exact gU_n (gne (show (26 : Nat) ≠ 39 by decide)) : A354 (26, 0) = A335 (26, 0)).trans f340
  have f361 : A354 (27, 0) = some (q56, .inl (cI, 72, .inl (fun _ => 0))) := (by rw [eA354]; exact gU_n (gne (show (27 : Nat) ≠ 39 by decide)) : A354 (27, 0) = A335 (27, 0)).trans f341
  have f362 : A354 (28, 0) = some (q73, .inl (cI, 72, .inl (fun _ => 0))) := (by rw [eA354]; exact gU_n (gne (show (28 : Nat) ≠ 39 by decide)) : A354 (28, 0) = A335 (28, 0)).trans f342
  have f363 : A354 (29, 0) = some (q92, .inl (cI, 96, .inl (fun _ => 0))) := (by rw [eA354]; exact gU_n (gne (show (29 : Nat) ≠ 39 by decide)) : A354 (29, 0) = A335 (29, 0)).trans f343
  have f364 : A354 (30, 0) = some (q113, .inl (cI, 96, .inl (fun _ => 0))) := (by rw [eA354]; exact gU_n (gne (show (30 : Nat) ≠ 39 by decide)) : A354 (30, 0) = A335 (30, 0)).trans f344
  have f365 : A354 (31, 0) = some (q136, .inl (cI, 24, .inl (fun _ => 0))) := (by rw [eA354]; exact gU_n (gne (show (31 : Nat) ≠ 39 by decide)) : A354 (31, 0) = A335 (31, 0)).trans f345
  have f366 : A354 (33, 0) = some (q161, .inl (cZ, 4, .inl (fun _ => 0))) := (by rw [eA354]; exact gU_n (gne (show (33 : Nat) ≠ 39 by decide)) : A354 (33, 0) = A335 (33, 0)).trans f346
  have f367 : A354 (34, 0) = some (q188, .inl (cI, 160, .inl (fun _ => 0))) := (by rw [eA354]; exact gU_n (gne (show (34 : Nat) ≠ 39 by decide)) : A354 (34, 0) = A335 (34, 0)).trans f347
  have f368 : A354 (35, 0) = some (q217, .inl (cI, 160, .inl (fun _ => 0))) := (by rw [eA354]; exact gU_n (gne (show (35 : Nat) ≠ 39 by decide)) : A354 (35, 0) = A335 (35, 0)).trans f348
  have f369 : A354 (36, 0) = some (q248, .inl (cI, 480, .inl (fun _ => 0))) := (by rw [eA354]; exact gU_n (gne (show (36 : Nat) ≠ 39 by decide)) : A354 (36, 0) = A335 (36, 0)).trans f349
  have f370 : A354 (37, 0) = some (q281, .inl (cI, 160, .inl (fun _ => 0))) := (by rw [eA354]; exact gU_n (gne (show (37 : Nat) ≠ 39 by decide)) : A354 (37, 0) = A335 (37, 0)).trans f350
  have f371 : A354 (38, 0) = some (q316, .inl (cI, 160, .inl (fun _ => 0))) := (by rw [eA354]; exact gU_n (gne (show (38 : Nat) ≠ 39 by decide)) : A354 (38, 0) = A335 (38, 0)).trans f351
  have f372 : A354 (39, 0) = some (q353, .inl (cI, 160, .inl (fun _ => 0))) := by rw [eA354]; exact gU_s
  have glA354 : gL A A354 := by rw [eA354]; exact glA335.U (by decide)
  refine g_putF (ty := (.array .int)) (v := .ref q353) hx hb hts i_MM t_MM t_MM_ok n_MM hown hK.1 hP hS f355 rfl 18 (by decide) (hts _ k_461) (fun _ h9 => h9) rfl hnm rfl (by decide +kernel) rfl rfl (Nat.le_of_ble_eq_true rfl) d_MM_init_140 (fun H locs hP hS => ?_)
  obtain ⟨A373, eA373⟩ : ∃ z, z = gU A354 (20, 0) (h, .inr (5, [.ref q1, .ref q8, .int 0, .ref q17, .ref q28, .ref q41, .ref q56, .ref q73, .ref q92, .ref q113, .ref q136, .int 0, .ref q161, .ref q188, .ref q217, .ref q248, .ref q281, .ref q316, .ref q353, .null, .null, .null, .int 0, .int 0])) := ⟨_, rfl⟩
  replace hP : gP D classes b A373 H := by rw [eA373]; exact hP
  have f374 : A373 (21, 0) = some (q1, .inl (cI, 3, .inl (fun _ => 0))) := (by rw [eA373]; exact gU_n (gne (show (21 : Nat) ≠ 20 by decide)) : A373 (21, 0) = A354 (21, 0)).trans f356
  have f375 : A373 (22, 0) = some (q8, .inl (cI, 3, .inl (fun _ => 0))) := (by rw [eA373]; exact gU_n (gne (show (22 : Nat) ≠ 20 by decide)) : A373 (22, 0) = A354 (22, 0)).trans f357
  have f376 : A373 (24, 0) = some (q17, .inl (cI, 24, .inl (fun _ => 0))) := (by rw [eA373]; exact gU_n (gne (show (24 : Nat) ≠ 20 by decide)) : A373 (24, 0) = A354 (24, 0)).trans f358
  have f377 : A373 (25, 0) = some (q28, .inl (cI, 24, .inl (fun _ => 0))) := (by rw [eA373]; exact gU_n (gne (show (25 : Nat) ≠ 20 by decide)) : A373 (25, 0) = A354 (25, 0)).trans f359
  have f378 : A373 (26, 0) = some (q41, .inl (cZ, 24, .inl (fun _ => 0))) := (by rw [eA373]; exact gU_n (gne (show (26 : Nat) ≠ 20 by decide)) : A373 (26, 0) = A354 (26, 0)).trans f360
  have f379 : A373 (27, 0) = some (q56, .inl (cI, 72, .inl (fun _ => 0))) := (by rw [eA373]; exact gU_n (gne (show (27 : Nat) ≠ 20 by decide)) : A373 (27, 0) = A354 (27, 0)).trans f361
  have f380 : A373 (28, 0) = some (q73, .inl (cI, 72, .inl (fun _ => 0))) := (by rw [eA373]; exact gU_n (gne (show (28 : Nat) ≠ 20 by decide)) : A373 (28, 0) = A354 (28, 0)).trans f362
  have f381 : A373 (29, 0) = some (q92, .inl (cI, 96, .inl (fun _ => 0))) := (by rw [eA373]; exact gU_n (gne (show (29 : Nat) ≠ 20 by decide)) : A373 (29, 0) = A354 (29, 0)).trans f363
  have f382 : A373 (30, 0) = some (q113, .inl (cI, 96, .inl (fun _ => 0))) := (by rw [eA373]; exact gU_n (gne (show (30 : Nat) ≠ 20 by decide)) : A373 (30, 0) = A354 (30, 0)).trans f364
  have f383 : A373 (31, 0) = some (q136, .inl (cI, 24, .inl (fun _ => 0))) := (by rw [eA373]; exact gU_n (gne (show (31 : Nat) ≠ 20 by decide)) : A373 (31, 0) = A354 (31, 0)).trans f365
  have f384 : A373 (33, 0) = some (q161, .inl (cZ, 4, .inl (fun _ => 0))) := (by rw [eA373]; exact gU_n (gne (show (33 : Nat) ≠ 20 by decide)) : A373 (33, 0) = A354 (33, 0)).trans f366
  have f385 : A373 (34, 0) = some (q188, .inl (cI, 160, .inl (fun _ => 0))) := (by rw [eA373]; exact gU_n (gne (show (34 : Nat) ≠ 20 by decide)) : A373 (34, 0) = A354 (34, 0)).trans f367
  have f386 : A373 (35, 0) = some (q217, .inl (cI, 160, .inl (fun _ => 0))) := (by rw [eA373]; exact gU_n (gne (show (35 : Nat) ≠ 20 by decide)) : A373 (35, 0) = A354 (35, 0)).trans f368
  have f387 : A373 (36, 0) = some (q248, .inl (cI, 480, .inl (fun _ => 0))) := (by rw [eA373]; exact gU_n (gne (show (36 : Nat) ≠ 20 by decide)) : A373 (36, 0) = A354 (36, 0)).trans f369
  have f388 : A373 (37, 0) = some (q281, .inl (cI, 160, .inl (fun _ => 0))) := (by rw [eA373]; exact gU_n (gne (show (37 : Nat) ≠ 20 by decide)) : A373 (37, 0) = A354 (37, 0)).trans f370
  have f389 : A373 (38, 0) = some (q316, .inl (cI, 160, .inl (fun _ => 0))) := (by rw [eA373]; exact gU_n (gne (show (38 : Nat) ≠ 20 by decide)) : A373 (38, 0) = A354 (38, 0)).trans f371
  have f390 : A373 (39, 0) = some (q353, .inl (cI, 160, .inl (fun _ => 0))) := (by rw [eA373]; exact gU_n (gne (show (39 : Nat) ≠ 20 by decide)) : A373 (39, 0) = A354 (39, 0)).trans f372
  have f391 : A373 (20, 0) = some (h, .inr (5, [.ref q1, .ref q8, .int 0, .ref q17, .ref q28, .ref q41, .ref q56, .ref q73, .ref q92, .ref q113, .ref q136, .int 0, .ref q161, .ref q188, .ref q217, .ref q248, .ref q281, .ref q316, .ref q353, .null, .null, .null, .int 0, .int 0])) := by rw [eA373]; exact gU_s
  have glA373 : gL A A373 := by rw [eA373]; exact glA354.U (by decide)
  refine lv_aload_n hx hb d_MM_init_143 rfl (lv_at hl 0 rfl) ?_
  refine lv_sipush (v := 160) hx hb d_MM_init_144 (by decide) ?_
  refine g_newa (atype := .long) (a0 := (160, .inr (.inl (fun _ => 0)))) (N' := 160) hx hb (hts _ k_516) rfl hK.1 hP hS (40, 0) (hK.1.2 3 _ rfl).2 rfl (by decide) (by decide) (by decide) (by decide) (by decide) d_MM_init_147 (fun q392 H hP hS => ?_)
  refine W.widen (k := 18) (n := 1882) (by decide) (by decide) ?_
  obtain ⟨A393, eA393⟩ : ∃ z, z = gU A373 (40, 0) (q392, .inl (cL, 160, .inr (.inl (fun _ => 0)))) := ⟨_, rfl⟩
  replace hP : gP D classes b A393 H := by rw [eA393]; exact hP
  have f394 : A393 (20, 0) = some (h, .inr (5, [.ref q1, .ref q8, .int 0, .ref q17, .ref q28, .ref q41, .ref q56, .ref q73, .ref q92, .ref q113, .ref q136, .int 0, .ref q161, .ref q188, .ref q217, .ref q248, .ref q281, .ref q316, .ref q353, .null, .null, .null, .int 0, .int 0])) := (by rw [eA393]; exact gU_n (gne (show (20 : Nat) ≠ 40 by decide)) : A393 (20, 0) = A373 (20, 0)).trans f391
  have f395 : A393 (21, 0) = some (q1, .inl (cI, 3, .inl (fun _ => 0))) := (by rw [eA393]; exact gU_n (gne (show (21 : Nat) ≠ 40 by decide)) : A393 (21, 0) = A373 (21, 0)).trans f374
  have f396 : A393 (22, 0) = some (q8, .inl (cI, 3, .inl (fun _ => 0))) := (by rw [eA393]; exact gU_n (gne (show (22 : Nat) ≠ 40 by decide)) : A393 (22, 0) = A373 (22, 0)).trans f375
  have f397 : A393 (24, 0) = some (q17, .inl (cI, 24, .inl (fun _ => 0))) := (by rw [eA393]; exact gU_n (gne (show (24 : Nat) ≠ 40 by decide)) : A393 (24, 0) = A373 (24, 0)).trans f376
  have f398 : A393 (25, 0) = some (q28, .inl (cI, 24, .inl (fun _ => 0))) := (by rw [eA393]; exact gU_n (gne (show (25 : Nat) ≠ 40 by decide)) : A393 (25, 0) = A373 (25, 0)).trans f377
  have f399 : A393 (26, 0) = some (q41, .inl (cZ, 24, .inl (fun _ => 0))) := (by rw [eA393]; exact gU_n (gne (show (26 : Nat) ≠ 40 by decide)) : A393 (26, 0) = A373 (26, 0)).trans f378
  have f400 : A393 (27, 0) = some (q56, .inl (cI, 72, .inl (fun _ => 0))) := (by rw [eA393]; exact gU_n (gne (show (27 : Nat) ≠ 40 by decide)) : A393 (27, 0) = A373 (27, 0)).trans f379
  have f401 : A393 (28, 0) = some (q73, .inl (cI, 72, .inl (fun _ => 0))) := (by rw [eA393]; exact gU_n (gne (show (28 : Nat) ≠ 40 by decide)) : A393 (28, 0) = A373 (28, 0)).trans f380
  have f402 : A393 (29, 0) = some (q92, .inl (cI, 96, .inl (fun _ => 0))) := (by rw [eA393]; exact gU_n (gne (show (29 : Nat) ≠ 40 by decide)) : A393 (29, 0) = A373 (29, 0)).trans f381
  have f403 : A393 (30, 0) = some (q113, .inl (cI, 96, .inl (fun _ => 0))) := (by rw [eA393]; exact gU_n (gne (show (30 : Nat) ≠ 40 by decide)) : A393 (30, 0) = A373 (30, 0)).trans f382
  have f404 : A393 (31, 0) = some (q136, .inl (cI, 24, .inl (fun _ => 0))) := (by rw [eA393]; exact gU_n (gne (show (31 : Nat) ≠ 40 by decide)) : A393 (31, 0) = A373 (31, 0)).trans f383
  have f405 : A393 (33, 0) = some (q161, .inl (cZ, 4, .inl (fun _ => 0))) := (by rw [eA393]; exact gU_n (gne (show (33 : Nat) ≠ 40 by decide)) : A393 (33, 0) = A373 (33, 0)).trans f384
  have f406 : A393 (34, 0) = some (q188, .inl (cI, 160, .inl (fun _ => 0))) := (by rw [eA393]; exact gU_n (gne (show (34 : Nat) ≠ 40 by decide)) : A393 (34, 0) = A373 (34, 0)).trans f385
  have f407 : A393 (35, 0) = some (q217, .inl (cI, 160, .inl (fun _ => 0))) := (by rw [eA393]; exact gU_n (gne (show (35 : Nat) ≠ 40 by decide)) : A393 (35, 0) = A373 (35, 0)).trans f386
  have f408 : A393 (36, 0) = some (q248, .inl (cI, 480, .inl (fun _ => 0))) := (by rw [eA393]; exact gU_n (gne (show (36 : Nat) ≠ 40 by decide)) : A393 (36, 0) = A373 (36, 0)).trans f387
  have f409 : A393 (37, 0) = some (q281, .inl (cI, 160, .inl (fun _ => 0))) := (by rw [eA393]; exact gU_n (gne (show (37 : Nat) ≠ 40 by decide)) : A393 (37, 0) = A373 (37, 0)).trans f388
  have f410 : A393 (38, 0) = some (q316, .inl (cI, 160, .inl (fun _ => 0))) := (by rw [eA393]; exact gU_n (gne (show (38 : Nat) ≠ 40 by decide)) : A393 (38, 0) = A373 (38, 0)).trans f389
  have f411 : A393 (39, 0) = some (q353, .inl (cI, 160, .inl (fun _ => 0))) := (by rw [eA393]; exact gU_n (gne (show (39 : Nat) ≠ 40 by decide)) : A393 (39, 0) = A373 (39, 0)).trans f390
  have f412 : A393 (40, 0) = some (q392, .inl (cL, 160, .inr (.inl (fun _ => 0)))) := by rw [eA393]; exact gU_s
  have glA393 : gL A A393 := by rw [eA393]; exact glA373.U (by decide)
  refine g_putF (ty := (.array .long)) (v := .ref q392) hx hb hts i_MM t_MM t_MM_ok n_MM hown hK.1 hP hS f394 rfl 19 (by decide) (hts _ k_462) (fun _ h9 => h9) rfl hnm rfl (by decide +kernel) rfl rfl (Nat.le_of_ble_eq_true rfl) d_MM_init_149 (fun H locs hP hS => ?_)
  obtain ⟨A413, eA413⟩ : ∃ z, z = gU A393 (20, 0) (h, .inr (5, [.ref q1, .ref q8, .int 0, .ref q17, .ref q28, .ref q41, .ref q56, .ref q73, .ref q92, .ref q113, .ref q136, .int 0, .ref q161, .ref q188, .ref q217, .ref q248, .ref q281, .ref q316, .ref q353, .ref q392, .null, .null, .int 0, .int 0])) := ⟨_, rfl⟩
  replace hP : gP D classes b A413 H := by rw [eA413]; exact hP
  have f414 : A413 (21, 0) = some (q1, .inl (cI, 3, .inl (fun _ => 0))) := (by rw [eA413]; exact gU_n (gne (show (21 : Nat) ≠ 20 by decide)) : A413 (21, 0) = A393 (21, 0)).trans f395
  have f415 : A413 (22, 0) = some (q8, .inl (cI, 3, .inl (fun _ => 0))) := (by rw [eA413]; exact gU_n (gne (show (22 : Nat) ≠ 20 by decide)) : A413 (22, 0) = A393 (22, 0)).trans f396
  have f416 : A413 (24, 0) = some (q17, .inl (cI, 24, .inl (fun _ => 0))) := (by rw [eA413]; exact gU_n (gne (show (24 : Nat) ≠ 20 by decide)) : A413 (24, 0) = A393 (24, 0)).trans f397
  have f417 : A413 (25, 0) = some (q28, .inl (cI, 24, .inl (fun _ => 0))) := (by rw [eA413]; exact gU_n (gne (show (25 : Nat) ≠ 20 by decide)) : A413 (25, 0) = A393 (25, 0)).trans f398
  have f418 : A413 (26, 0) = some (q41, .inl (cZ, 24, .inl (fun _ => 0))) := (by rw [eA413]; exact gU_n (gne (show (26 : Nat) ≠ 20 by decide)) : A413 (26, 0) = A393 (26, 0)).trans f399
  have f419 : A413 (27, 0) = some (q56, .inl (cI, 72, .inl (fun _ => 0))) := (by rw [eA413]; exact gU_n (gne (show (27 : Nat) ≠ 20 by decide)) : A413 (27, 0) = A393 (27, 0)).trans f400
  have f420 : A413 (28, 0) = some (q73, .inl (cI, 72, .inl (fun _ => 0))) := (by rw [eA413]; exact gU_n (gne (show (28 : Nat) ≠ 20 by decide)) : A413 (28, 0) = A393 (28, 0)).trans f401
  have f421 : A413 (29, 0) = some (q92, .inl (cI, 96, .inl (fun _ => 0))) := (by rw [eA413]; exact gU_n (gne (show (29 : Nat) ≠ 20 by decide)) : A413 (29, 0) = A393 (29, 0)).trans f402
  have f422 : A413 (30, 0) = some (q113, .inl (cI, 96, .inl (fun _ => 0))) := (by rw [eA413]; exact gU_n (gne (show (30 : Nat) ≠ 20 by decide)) : A413 (30, 0) = A393 (30, 0)).trans f403
  have f423 : A413 (31, 0) = some (q136, .inl (cI, 24, .inl (fun _ => 0))) := (by rw [eA413]; exact gU_n (gne (show (31 : Nat) ≠ 20 by decide)) : A413 (31, 0) = A393 (31, 0)).trans f404
  have f424 : A413 (33, 0) = some (q161, .inl (cZ, 4, .inl (fun _ => 0))) := (by rw [eA413]; exact gU_n (gne (show (33 : Nat) ≠ 20 by decide)) : A413 (33, 0) = A393 (33, 0)).trans f405
  have f425 : A413 (34, 0) = some (q188, .inl (cI, 160, .inl (fun _ => 0))) := (by rw [eA413]; exact gU_n (gne (show (34 : Nat) ≠ 20 by decide)) : A413 (34, 0) = A393 (34, 0)).trans f406
  have f426 : A413 (35, 0) = some (q217, .inl (cI, 160, .inl (fun _ => 0))) := (by rw [eA413]; exact gU_n (gne (show (35 : Nat) ≠ 20 by decide)) : A413 (35, 0) = A393 (35, 0)).trans f407
  have f427 : A413 (36, 0) = some (q248, .inl (cI, 480, .inl (fun _ => 0))) := (by rw [eA413]; exact gU_n (gne (show (36 : Nat) ≠ 20 by decide)) : A413 (36, 0) = A393 (36, 0)).trans f408
  have f428 : A413 (37, 0) = some (q281, .inl (cI, 160, .inl (fun _ => 0))) := (by rw [eA413]; exact gU_n (gne (show (37 : Nat) ≠ 20 by decide)) : A413 (37, 0) = A393 (37, 0)).trans f409
  have f429 : A413 (38, 0) = some (q316, .inl (cI, 160, .inl (fun _ => 0))) := (by rw [eA413]; exact gU_n (gne (show (38 : Nat) ≠ 20 by decide)) : A413 (38, 0) = A393 (38, 0)).trans f410
  have f430 : A413 (39, 0) = some (q353, .inl (cI, 160, .inl (fun _ => 0))) := (by rw [eA413]; exact gU_n (gne (show (39 : Nat) ≠ 20 by decide)) : A413 (39, 0) = A393 (39, 0)).trans f411
  have f431 : A413 (40, 0) = some (q392, .inl (cL, 160, .inr (.inl (fun _ => 0)))) := (by rw [eA413]; exact gU_n (gne (show (40 : Nat) ≠ 20 by decide)) : A413 (40, 0) = A393 (40, 0)).trans f412
  have f432 : A413 (20, 0) = some (h, .inr (5, [.ref q1, .ref q8, .int 0, .ref q17, .ref q28, .ref q41, .ref q56, .ref q73, .ref q92, .ref q113, .ref q136, .int 0, .ref q161, .ref q188, .ref q217, .ref q248, .ref q281, .ref q316, .ref q353, .ref q392, .null, .null, .int 0, .int 0])) := by rw [eA413]; exact gU_s
  have glA413 : gL A A413 := by rw [eA413]; exact glA393.U (by decide)
  refine lv_aload_n hx hb d_MM_init_152 rfl (lv_at hl 0 rfl) ?_
  refine lv_sipush (v := 160) hx hb d_MM_init_153 (by decide) ?_
  refine g_newa (atype := .boolean) (a0 := (160, .inl (fun _ => 0))) (N' := 160) hx hb (hts _ k_66) rfl hK.1 hP hS (41, 0) (hK.1.2 1 _ rfl).2 rfl (by decide) (by decide) (by decide) (by decide) (by decide) d_MM_init_156 (fun q433 H hP hS => ?_)
  refine W.widen (k := 19) (n := 2042) (by decide) (by decide) ?_
  obtain ⟨A434, eA434⟩ : ∃ z, z = gU A413 (41, 0) (q433, .inl (cZ, 160, .inl (fun _ => 0))) := ⟨_, rfl⟩
  replace hP : gP D classes b A434 H := by rw [eA434]; exact hP
  have f435 : A434 (20, 0) = some (h, .inr (5, [.ref q1, .ref q8, .int 0, .ref q17, .ref q28, .ref q41, .ref q56, .ref q73, .ref q92, .ref q113, .ref q136, .int 0, .ref q161, .ref q188, .ref q217, .ref q248, .ref q281, .ref q316, .ref q353, .ref q392, .null, .null, .int 0, .int 0])) := (by rw [eA434]; exact gU_n (gne (show (20 : Nat) ≠ 41 by decide)) : A434 (20, 0) = A413 (20, 0)).trans f432
  have f436 : A434 (21, 0) = some (q1, .inl (cI, 3, .inl (fun _ => 0))) := (by rw [eA434]; exact gU_n (gne (show (21 : Nat) ≠ 41 by decide)) : A434 (21, 0) = A413 (21, 0)).trans f414
  have f437 : A434 (22, 0) = some (q8, .inl (cI, 3, .inl (fun _ => 0))) := (by rw [eA434]; exact gU_n (gne (show (22 : Nat) ≠ 41 by decide)) : A434 (22, 0) = A413 (22, 0)).trans f415
  have f438 : A434 (24, 0) = some (q17, .inl (cI, 24, .inl (fun _ => 0))) := (by rw [eA434]; exact gU_n (gne (show (24 : Nat) ≠ 41 by decide)) : A434 (24, 0) = A413 (24, 0)).trans f416
  have f439 : A434 (25, 0) = some (q28, .inl (cI, 24, .inl (fun _ => 0))) := (by rw [eA434]; exact gU_n (gne (show (25 : Nat) ≠ 41 by decide)) : A434 (25, 0) = A413 (25, 0)).trans f417
  have f440 : A434 (26, 0) = some (q41, .inl (cZ, 24, .inl (fun _ => 0))) := (by rw [eA434]; exact gU_n (gne (show (26 : Nat) ≠ 41 by decide)) : A434 (26, 0) = A413 (26, 0)).trans f418
  have f441 : A434 (27, 0) = some (q56, .inl (cI, 72, .inl (fun _ => 0))) := (by rw [eA434]; exact gU_n (gne (show (27 : Nat) ≠ 41 by decide)) : A434 (27, 0) = A413 (27, 0)).trans f419
  have f442 : A434 (28, 0) = some (q73, .inl (cI, 72, .inl (fun _ => 0))) := (by rw [eA434]; exact gU_n (gne (show (28 : Nat) ≠ 41 by decide)) : A434 (28, 0) = A413 (28, 0)).trans f420
  have f443 : A434 (29, 0) = some (q92, .inl (cI, 96, .inl (fun _ => 0))) := (by rw [eA434]; exact gU_n (gne (show (29 : Nat) ≠ 41 by decide)) : A434 (29, 0) = A413 (29, 0)).trans f421
  have f444 : A434 (30, 0) = some (q113, .inl (cI, 96, .inl (fun _ => 0))) := (by rw [eA434]; exact gU_n (gne (show (30 : Nat) ≠ 41 by decide)) : A434 (30, 0) = A413 (30, 0)).trans f422
  have f445 : A434 (31, 0) = some (q136, .inl (cI, 24, .inl (fun _ => 0))) := (by rw [eA434]; exact gU_n (gne (show (31 : Nat) ≠ 41 by decide)) : A434 (31, 0) = A413 (31, 0)).trans f423
  have f446 : A434 (33, 0) = some (q161, .inl (cZ, 4, .inl (fun _ => 0))) := (by rw [eA434]; exact gU_n (gne (show (33 : Nat) ≠ 41 by decide)) : A434 (33, 0) = A413 (33, 0)).trans f424
  have f447 : A434 (34, 0) = some (q188, .inl (cI, 160, .inl (fun _ => 0))) := (by rw [eA434]; exact gU_n (gne (show (34 : Nat) ≠ 41 by decide)) : A434 (34, 0) = A413 (34, 0)).trans f425
  have f448 : A434 (35, 0) = some (q217, .inl (cI, 160, .inl (fun _ => 0))) := (by rw [eA434]; exact gU_n (gne (show (35 : Nat) ≠ 41 by decide)) : A434 (35, 0) = A413 (35, 0)).trans f426
  have f449 : A434 (36, 0) = some (q248, .inl (cI, 480, .inl (fun _ => 0))) := (by rw [eA434]; exact gU_n (gne (show (36 : Nat) ≠ 41 by decide)) : A434 (36, 0) = A413 (36, 0)).trans f427
  have f450 : A434 (37, 0) = some (q281, .inl (cI, 160, .inl (fun _ => 0))) := (by rw [eA434]; exact gU_n (gne (show (37 : Nat) ≠ 41 by decide)) : A434 (37, 0) = A413 (37, 0)).trans f428
  have f451 : A434 (38, 0) = some (q316, .inl (cI, 160, .inl (fun _ => 0))) := (by rw [eA434]; exact gU_n (gne (show (38 : Nat) ≠ 41 by decide)) : A434 (38, 0) = A413 (38, 0)).trans f429
  have f452 : A434 (39, 0) = some (q353, .inl (cI, 160, .inl (fun _ => 0))) := (by rw [eA434]; exact gU_n (gne (show (39 : Nat) ≠ 41 by decide)) : A434 (39, 0) = A413 (39, 0)).trans f430
  have f453 : A434 (40, 0) = some (q392, .inl (cL, 160, .inr (.inl (fun _ => 0)))) := (by rw [eA434]; exact gU_n (gne (show (40 : Nat) ≠ 41 by decide)) : A434 (40, 0) = A413 (40, 0)).trans f431
  have f454 : A434 (41, 0) = some (q433, .inl (cZ, 160, .inl (fun _ => 0))) := by rw [eA434]; exact gU_s
  have glA434 : gL A A434 := by rw [eA434]; exact glA413.U (by decide)
  refine g_putF (ty := (.array .boolean)) (v := .ref q433) hx hb hts i_MM t_MM t_MM_ok n_MM hown hK.1 hP hS f435 rfl 20 (by decide) (hts _ k_463) (fun _ h9 => h9) rfl hnm rfl (by decide +kernel) rfl rfl (Nat.le_of_ble_eq_true rfl) d_MM_init_158 (fun H locs hP hS => ?_)
  obtain ⟨A455, eA455⟩ : ∃ z, z = gU A434 (20, 0) (h, .inr (5, [.ref q1, .ref q8, .int 0, .ref q17, .ref q28, .ref q41, .ref q56, .ref q73, .ref q92, .ref q113, .ref q136, .int 0, .ref q161, .ref q188, .ref q217, .ref q248, .ref q281, .ref q316, .ref q353, .ref q392, .ref q433, .null, .int 0, .int 0])) := ⟨_, rfl⟩
  replace hP : gP D classes b A455 H := by rw [eA455]; exact hP
  have f456 : A455 (21, 0) = some (q1, .inl (cI, 3, .inl (fun _ => 0))) := (by rw [eA455]; exact gU_n (gne (show (21 : Nat) ≠ 20 by decide)) : A455 (21, 0) = A434 (21, 0)).trans f436
  have f457 : A455 (22, 0) = some (q8, .inl (cI, 3, .inl (fun _ => 0))) := (by rw [eA455]; exact gU_n (gne (show (22 : Nat) ≠ 20 by decide)) : A455 (22, 0) = A434 (22, 0)).trans f437
  have f458 : A455 (24, 0) = some (q17, .inl (cI, 24, .inl (fun _ => 0))) := (by rw [eA455]; exact gU_n (gne (show (24 : Nat) ≠ 20 by decide)) : A455 (24, 0) = A434 (24, 0)).trans f438
  have f459 : A455 (25, 0) = some (q28, .inl (cI, 24, .inl (fun _ => 0))) := (by rw [eA455]; exact gU_n (gne (show (25 : Nat) ≠ 20 by decide)) : A455 (25, 0) = A434 (25, 0)).trans f439
  have f460 : A455 (26, 0) = some (q41, .inl (cZ, 24, .inl (fun _ => 0))) := (by rw [eA455]; exact gU_n (gne (show (26 : Nat) ≠ 20 by decide)) : A455 (26, 0) = A434 (26, 0)).trans f440
  have f461 : A455 (27, 0) = some (q56, .inl (cI, 72, .inl (fun _ => 0))) := (by rw [eA455]; exact gU_n (gne (show (27 : Nat) ≠ 20 by decide)) : A455 (27, 0) = A434 (27, 0)).trans f441
  have f462 : A455 (28, 0) = some (q73, .inl (cI, 72, .inl (fun _ => 0))) := (by rw [eA455]; exact gU_n (gne (show (28 : Nat) ≠ 20 by decide)) : A455 (28, 0) = A434 (28, 0)).trans f442
  have f463 : A455 (29, 0) = some (q92, .inl (cI, 96, .inl (fun _ => 0))) := (by rw [eA455]; exact gU_n (gne (show (29 : Nat) ≠ 20 by decide)) : A455 (29, 0) = A434 (29, 0)).trans f443
  have f464 : A455 (30, 0) = some (q113, .inl (cI, 96, .inl (fun _ => 0))) := (by rw [eA455]; exact gU_n (gne (show (30 : Nat) ≠ 20 by decide)) : A455 (30, 0) = A434 (30, 0)).trans f444
  have f465 : A455 (31, 0) = some (q136, .inl (cI, 24, .inl (fun _ => 0))) := (by rw [eA455]; exact gU_n (gne (show (31 : Nat) ≠ 20 by decide)) : A455 (31, 0) = A434 (31, 0)).trans f445
  have f466 : A455 (33, 0) = some (q161, .inl (cZ, 4, .inl (fun _ => 0))) := (by rw [eA455]; exact gU_n (gne (show (33 : Nat) ≠ 20 by decide)) : A455 (33, 0) = A434 (33, 0)).trans f446
  have f467 : A455 (34, 0) = some (q188, .inl (cI, 160, .inl (fun _ => 0))) := (by rw [eA455]; exact gU_n (gne (show (34 : Nat) ≠ 20 by decide)) : A455 (34, 0) = A434 (34, 0)).trans f447
  have f468 : A455 (35, 0) = some (q217, .inl (cI, 160, .inl (fun _ => 0))) := (by rw [eA455]; exact gU_n (gne (show (35 : Nat) ≠ 20 by decide)) : A455 (35, 0) = A434 (35, 0)).trans f448
  have f469 : A455 (36, 0) = some (q248, .inl (cI, 480, .inl (fun _ => 0))) := (by rw [eA455]; exact gU_n (gne (show (36 : Nat) ≠ 20 by decide)) : A455 (36, 0) = A434 (36, 0)).trans f449
  have f470 : A455 (37, 0) = some (q281, .inl (cI, 160, .inl (fun _ => 0))) := (by rw [eA455]; exact gU_n (gne (show (37 : Nat) ≠ 20 by decide)) : A455 (37, 0) = A434 (37, 0)).trans f450
  have f471 : A455 (38, 0) = some (q316, .inl (cI, 160, .inl (fun _ => 0))) := (by rw [eA455]; exact gU_n (gne (show (38 : Nat) ≠ 20 by decide)) : A455 (38, 0) = A434 (38, 0)).trans f451
  have f472 : A455 (39, 0) = some (q353, .inl (cI, 160, .inl (fun _ => 0))) := (by rw [eA455]; exact gU_n (gne (show (39 : Nat) ≠ 20 by decide)) : A455 (39, 0) = A434 (39, 0)).trans f452
  have f473 : A455 (40, 0) = some (q392, .inl (cL, 160, .inr (.inl (fun _ => 0)))) := (by rw [eA455]; exact gU_n (gne (show (40 : Nat) ≠ 20 by decide)) : A455 (40, 0) = A434 (40, 0)).trans f453
  have f474 : A455 (41, 0) = some (q433, .inl (cZ, 160, .inl (fun _ => 0))) := (by rw [eA455]; exact gU_n (gne (show (41 : Nat) ≠ 20 by decide)) : A455 (41, 0) = A434 (41, 0)).trans f454
  have f475 : A455 (20, 0) = some (h, .inr (5, [.ref q1, .ref q8, .int 0, .ref q17, .ref q28, .ref q41, .ref q56, .ref q73, .ref q92, .ref q113, .ref q136, .int 0, .ref q161, .ref q188, .ref q217, .ref q248, .ref q281, .ref q316, .ref q353, .ref q392, .ref q433, .null, .int 0, .int 0])) := by rw [eA455]; exact gU_s
  have glA455 : gL A A455 := by rw [eA455]; exact glA434.U (by decide)
  refine lv_aload_n hx hb d_MM_init_161 rfl (lv_at hl 0 rfl) ?_
  refine lv_sipush (v := 160) hx hb d_MM_init_162 (by decide) ?_
  refine g_newa (atype := .boolean) (a0 := (160, .inl (fun _ => 0))) (N' := 160) hx hb (hts _ k_66) rfl hK.1 hP hS (42, 0) (hK.1.2 1 _ rfl).2 rfl (by decide) (by decide) (by decide) (by decide) (by decide) d_MM_init_165 (fun q476 H hP hS => ?_)
  refine W.widen (k := 20) (n := 2202) (by decide) (by decide) ?_
  obtain ⟨A477, eA477⟩ : ∃ z, z = gU A455 (42, 0) (q476, .inl (cZ, 160, .inl (fun _ => 0))) := ⟨_, rfl⟩
  replace hP : gP D classes b A477 H := by rw [eA477]; exact hP
  have f478 : A477 (20, 0) = some (h, .inr (5, [.ref q1, .ref q8, .int 0, .ref q17, .ref q28, .ref q41, .ref q56, .ref q73, .ref q92, .ref q113, .ref q136, .int 0, .ref q161, .ref q188, .ref q217, .ref q248, .ref q281, .ref q316, .ref q353, .ref q392, .ref q433, .null, .int 0, .int 0])) := (by rw [eA477]; exact gU_n (gne (show (20 : Nat) ≠ 42 by decide)) : A477 (20, 0) = A455 (20, 0)).trans f475
  have f479 : A477 (21, 0) = some (q1, .inl (cI, 3, .inl (fun _ => 0))) := (by rw [eA477]; exact gU_n (gne (show (21 : Nat) ≠ 42 by decide)) : A477 (21, 0) = A455 (21, 0)).trans f456
  have f480 : A477 (22, 0) = some (q8, .inl (cI, 3, .inl (fun _ => 0))) := (by rw [eA477]; exact gU_n (gne (show (22 : Nat) ≠ 42 by decide)) : A477 (22, 0) = A455 (22, 0)).trans f457
  have f481 : A477 (24, 0) = some (q17, .inl (cI, 24, .inl (fun _ => 0))) := (by rw [eA477]; exact gU_n (gne (show (24 : Nat) ≠ 42 by decide)) : A477 (24, 0) = A455 (24, 0)).trans f458
  have f482 : A477 (25, 0) = some (q28, .inl (cI, 24, .inl (fun _ => 0))) := (by rw [eA477]; exact gU_n (gne (show (25 : Nat) ≠ 42 by decide)) : A477 (25, 0) = A455 (25, 0)).trans f459
  have f483 : A477 (26, 0) = some (q41, .inl (cZ, 24, .inl (fun _ => 0))) := (by rw [eA477]; exact gU_n (gne (show (26 : Nat) ≠ 42 by decide)) : A477 (26, 0) = A455 (26, 0)).trans f460
  have f484 : A477 (27, 0) = some (q56, .inl (cI, 72, .inl (fun _ => 0))) := (by rw [eA477]; exact gU_n (gne (show (27 : Nat) ≠ 42 by decide)) : A477 (27, 0) = A455 (27, 0)).trans f461
  have f485 : A477 (28, 0) = some (q73, .inl (cI, 72, .inl (fun _ => 0))) := (by rw [eA477]; exact gU_n (gne (show (28 : Nat) ≠ 42 by decide)) : A477 (28, 0) = A455 (28, 0)).trans f462
  have f486 : A477 (29, 0) = some (q92, .inl (cI, 96, .inl (fun _ => 0))) := (by rw [eA477]; exact gU_n (gne (show (29 : Nat) ≠ 42 by decide)) : A477 (29, 0) = A455 (29, 0)).trans f463
  have f487 : A477 (30, 0) = some (q113, .inl (cI, 96, .inl (fun _ => 0))) := (by rw [eA477]; exact gU_n (gne (show (30 : Nat) ≠ 42 by decide)) : A477 (30, 0) = A455 (30, 0)).trans f464
  have f488 : A477 (31, 0) = some (q136, .inl (cI, 24, .inl (fun _ => 0))) := (by rw [eA477]; exact gU_n (gne (show (31 : Nat) ≠ 42 by decide)) : A477 (31, 0) = A455 (31, 0)).trans f465
  have f489 : A477 (33, 0) = some (q161, .inl (cZ, 4, .inl (fun _ => 0))) := (by rw [eA477]; exact gU_n (gne (show (33 : Nat) ≠ 42 by decide)) : A477 (33, 0) = A455 (33, 0)).trans f466
  have f490 : A477 (34, 0) = some (q188, .inl (cI, 160, .inl (fun _ => 0))) := (by rw [eA477]; exact gU_n (gne (show (34 : Nat) ≠ 42 by decide)) : A477 (34, 0) = A455 (34, 0)).trans f467
  have f491 : A477 (35, 0) = some (q217, .inl (cI, 160, .inl (fun _ => 0))) := (by rw [eA477]; exact gU_n (gne (show (35 : Nat) ≠ 42 by decide)) : A477 (35, 0) = A455 (35, 0)).trans f468
  have f492 : A477 (36, 0) = some (q248, .inl (cI, 480, .inl (fun _ => 0))) := (by rw [eA477]; exact gU_n (gne (show (36 : Nat) ≠ 42 by decide)) : A477 (36, 0) = A455 (36, 0)).trans f469
  have f493 : A477 (37, 0) = some (q281, .inl (cI, 160, .inl (fun _ => 0))) := (by rw [eA477]; exact gU_n (gne (show (37 : Nat) ≠ 42 by decide)) : A477 (37, 0) = A455 (37, 0)).trans f470
  have f494 : A477 (38, 0) = some (q316, .inl (cI, 160, .inl (fun _ => 0))) := (by rw [eA477]; exact gU_n (gne (show (38 : Nat) ≠ 42 by decide)) : A477 (38, 0) = A455 (38, 0)).trans f471
  have f495 : A477 (39, 0) = some (q353, .inl (cI, 160, .inl (fun _ => 0))) := (by rw [eA477]; exact gU_n (gne (show (39 : Nat) ≠ 42 by decide)) : A477 (39, 0) = A455 (39, 0)).trans f472
  have f496 : A477 (40, 0) = some (q392, .inl (cL, 160, .inr (.inl (fun _ => 0)))) := (by rw [eA477]; exact gU_n (gne (show (40 : Nat) ≠ 42 by decide)) : A477 (40, 0) = A455 (40, 0)).trans f473
  have f497 : A477 (41, 0) = some (q433, .inl (cZ, 160, .inl (fun _ => 0))) := (by rw [eA477]; exact gU_n (gne (show (41 : Nat) ≠ 42 by decide)) : A477 (41, 0) = A455 (41, 0)).trans f474
  have f498 : A477 (42, 0) = some (q476, .inl (cZ, 160, .inl (fun _ => 0))) := by rw [eA477]; exact gU_s
  have glA477 : gL A A477 := by rw [eA477]; exact glA455.U (by decide)
  refine g_putF (ty := (.array .boolean)) (v := .ref q476) hx hb hts i_MM t_MM t_MM_ok n_MM hown hK.1 hP hS f478 rfl 21 (by decide) (hts _ k_464) (fun _ h9 => h9) rfl hnm rfl (by decide +kernel) rfl rfl (Nat.le_of_ble_eq_true rfl) d_MM_init_167 (fun H locs hP hS => ?_)
  obtain ⟨A499, eA499⟩ : ∃ z, z = gU A477 (20, 0) (h, .inr (5, [.ref q1, .ref q8, .int 0, .ref q17, .ref q28, .ref q41, .ref q56, .ref q73, .ref q92, .ref q113, .ref q136, .int 0, .ref q161, .ref q188, .ref q217, .ref q248, .ref q281, .ref q316, .ref q353, .ref q392, .ref q433, .ref q476, .int 0, .int 0])) := ⟨_, rfl⟩
  replace hP : gP D classes b A499 H := by rw [eA499]; exact hP
  have f500 : A499 (21, 0) = some (q1, .inl (cI, 3, .inl (fun _ => 0))) := (by rw [eA499]; exact gU_n (gne (show (21 : Nat) ≠ 20 by decide)) : A499 (21, 0) = A477 (21, 0)).trans f479
  have f501 : A499 (22, 0) = some (q8, .inl (cI, 3, .inl (fun _ => 0))) := (by rw [eA499]; exact gU_n (gne (show (22 : Nat) ≠ 20 by decide)) : A499 (22, 0) = A477 (22, 0)).trans f480
  have f502 : A499 (24, 0) = some (q17, .inl (cI, 24, .inl (fun _ => 0))) := (by rw [eA499]; exact gU_n (gne (show (24 : Nat) ≠ 20 by decide)) : A499 (24, 0) = A477 (24, 0)).trans f481
  have f503 : A499 (25, 0) = some (q28, .inl (cI, 24, .inl (fun _ => 0))) := (by rw [eA499]; exact gU_n (gne (show (25 : Nat) ≠ 20 by decide)) : A499 (25, 0) = A477 (25, 0)).trans f482
  have f504 : A499 (26, 0) = some (q41, .inl (cZ, 24, .inl (fun _ => 0))) := (by rw [eA499]; exact gU_n (gne (show (26 : Nat) ≠ 20 by decide)) : A499 (26, 0) = A477 (26, 0)).trans f483
  have f505 : A499 (27, 0) = some (q56, .inl (cI, 72, .inl (fun _ => 0))) := (by rw [eA499]; exact gU_n (gne (show (27 : Nat) ≠ 20 by decide)) : A499 (27, 0) = A477 (27, 0)).trans f484
  have f506 : A499 (28, 0) = some (q73, .inl (cI, 72, .inl (fun _ => 0))) := (by rw [eA499]; exact gU_n (gne (show (28 : Nat) ≠ 20 by decide)) : A499 (28, 0) = A477 (28, 0)).trans f485
  have f507 : A499 (29, 0) = some (q92, .inl (cI, 96, .inl (fun _ => 0))) := (by rw [eA499]; exact gU_n (gne (show (29 : Nat) ≠ 20 by decide)) : A499 (29, 0) = A477 (29, 0)).trans f486
  have f508 : A499 (30, 0) = some (q113, .inl (cI, 96, .inl (fun _ => 0))) := (by rw [eA499]; exact gU_n (gne (show (30 : Nat) ≠ 20 by decide)) : A499 (30, 0) = A477 (30, 0)).trans f487
  have f509 : A499 (31, 0) = some (q136, .inl (cI, 24, .inl (fun _ => 0))) := (by rw [eA499]; exact gU_n (gne (show (31 : Nat) ≠ 20 by decide)) : A499 (31, 0) = A477 (31, 0)).trans f488
  have f510 : A499 (33, 0) = some (q161, .inl (cZ, 4, .inl (fun _ => 0))) := (by rw [eA499]; exact gU_n (gne (show (33 : Nat) ≠ 20 by decide)) : A499 (33, 0) = A477 (33, 0)).trans f489
  have f511 : A499 (34, 0) = some (q188, .inl (cI, 160, .inl (fun _ => 0))) := (by rw [eA499]; exact gU_n (gne (show (34 : Nat) ≠ 20 by decide)) : A499 (34, 0) = A477 (34, 0)).trans f490
  have f512 : A499 (35, 0) = some (q217, .inl (cI, 160, .inl (fun _ => 0))) := (by rw [eA499]; exact gU_n (gne (show (35 : Nat) ≠ 20 by decide)) : A499 (35, 0) = A477 (35, 0)).trans f491
  have f513 : A499 (36, 0) = some (q248, .inl (cI, 480, .inl (fun _ => 0))) := (by rw [eA499]; exact gU_n (gne (show (36 : Nat) ≠ 20 by decide)) : A499 (36, 0) = A477 (36, 0)).trans f492
  have f514 : A499 (37, 0) = some (q281, .inl (cI, 160, .inl (fun _ => 0))) := (by rw [eA499]; exact gU_n (gne (show (37 : Nat) ≠ 20 by decide)) : A499 (37, 0) = A477 (37, 0)).trans f493
  have f515 : A499 (38, 0) = some (q316, .inl (cI, 160, .inl (fun _ => 0))) := (by rw [eA499]; exact gU_n (gne (show (38 : Nat) ≠ 20 by decide)) : A499 (38, 0) = A477 (38, 0)).trans f494
  have f516 : A499 (39, 0) = some (q353, .inl (cI, 160, .inl (fun _ => 0))) := (by rw [eA499]; exact gU_n (gne (show (39 : Nat) ≠ 20 by decide)) : A499 (39, 0) = A477 (39, 0)).trans f495
  have f517 : A499 (40, 0) = some (q392, .inl (cL, 160, .inr (.inl (fun _ => 0)))) := (by rw [eA499]; exact gU_n (gne (show (40 : Nat) ≠ 20 by decide)) : A499 (40, 0) = A477 (40, 0)).trans f496
  have f518 : A499 (41, 0) = some (q433, .inl (cZ, 160, .inl (fun _ => 0))) := (by rw [eA499]; exact gU_n (gne (show (41 : Nat) ≠ 20 by decide)) : A499 (41, 0) = A477 (41, 0)).trans f497
  have f519 : A499 (42, 0) = some (q476, .inl (cZ, 160, .inl (fun _ => 0))) := (by rw [eA499]; exact gU_n (gne (show (42 : Nat) ≠ 20 by decide)) : A499 (42, 0) = A477 (42, 0)).trans f498
  have f520 : A499 (20, 0) = some (h, .inr (5, [.ref q1, .ref q8, .int 0, .ref q17, .ref q28, .ref q41, .ref q56, .ref q73, .ref q92, .ref q113, .ref q136, .int 0, .ref q161, .ref q188, .ref q217, .ref q248, .ref q281, .ref q316, .ref q353, .ref q392, .ref q433, .ref q476, .int 0, .int 0])) := by rw [eA499]; exact gU_s
  have glA499 : gL A A499 := by rw [eA499]; exact glA477.U (by decide)
  refine lv_aload_n hx hb d_MM_init_170 rfl (lv_at hl 0 rfl) ?_
  refine lv_iconst (v := (-1)) hx hb d_MM_init_171 (by decide) ?_
  refine g_put (ty := .int) (v := .int (-1)) hx hb hts i_MM t_MM t_MM_ok n_MM hown hK.1 hP hS f520 rfl 23 (by decide) (hts _ k_466) (fun _ h9 => h9) rfl (by decide +kernel) rfl rfl (Nat.le_of_ble_eq_true rfl) d_MM_init_172 (fun H locs hP hS => ?_)
  obtain ⟨A521, eA521⟩ : ∃ z, z = gU A499 (20, 0) (h, .inr (5, [.ref q1, .ref q8, .int 0, .ref q17, .ref q28, .ref q41, .ref q56, .ref q73, .ref q92, .ref q113, .ref q136, .int 0, .ref q161, .ref q188, .ref q217, .ref q248, .ref q281, .ref q316, .ref q353, .ref q392, .ref q433, .ref q476, .int 0, .int (-1)])) := ⟨_, rfl⟩
  replace hP : gP D classes b A521 H := by rw [eA521]; exact hP
  have f522 : A521 (21, 0) = some (q1, .inl (cI, 3, .inl (fun _ => 0))) := (by rw [eA521]; exact gU_n (gne (show (21 : Nat) ≠ 20 by decide)) : A521 (21, 0) = A499 (21, 0)).trans f500
  have f523 : A521 (22, 0) = some (q8, .inl (cI, 3, .inl (fun _ => 0))) := (by rw [eA521]; exact gU_n (gne (show (22 : Nat) ≠ 20 by decide)) : A521 (22, 0) = A499 (22, 0)).trans f501
  have f524 : A521 (24, 0) = some (q17, .inl (cI, 24, .inl (fun _ => 0))) := (by rw [eA521]; exact gU_n (gne (show (24 : Nat) ≠ 20 by decide)) : A521 (24, 0) = A499 (24, 0)).trans f502
  have f525 : A521 (25, 0) = some (q28, .inl (cI, 24, .inl (fun _ => 0))) := (by rw [eA521]; exact gU_n (gne (show (25 : Nat) ≠ 20 by decide)) : A521 (25, 0) = A499 (25, 0)).trans f503
  have f526 : A521 (26, 0) = some (q41, .inl (cZ, 24, .inl (fun _ => 0))) := (by rw [eA521]; exact gU_n (gne (show (26 : Nat) ≠ 20 by decide)) : A521 (26, 0) = A499 (26, 0)).trans f504
  have f527 : A521 (27, 0) = some (q56, .inl (cI, 72, .inl (fun _ => 0))) := (by rw [eA521]; exact gU_n (gne (show (27 : Nat) ≠ 20 by decide)) : A521 (27, 0) = A499 (27, 0)).trans f505
  have f528 : A521 (28, 0) = some (q73, .inl (cI, 72, .inl (fun _ => 0))) := (by rw [eA521]; exact gU_n (gne (show (28 : Nat) ≠ 20 by decide)) : A521 (28, 0) = A499 (28, 0)).trans f506
  have f529 : A521 (29, 0) = some (q92, .inl (cI, 96, .inl (fun _ => 0))) := (by rw [eA521]; exact gU_n (gne (show (29 : Nat) ≠ 20 by decide)) : A521 (29, 0) = A499 (29, 0)).trans f507
  have f530 : A521 (30, 0) = some (q113, .inl (cI, 96, .inl (fun _ => 0))) := (by rw [eA521]; exact gU_n (gne (show (30 : Nat) ≠ 20 by decide)) : A521 (30, 0) = A499 (30, 0)).trans f508
  have f531 : A521 (31, 0) = some (q136, .inl (cI, 24, .inl (fun _ => 0))) := (by rw [eA521]; exact gU_n (gne (show (31 : Nat) ≠ 20 by decide)) : A521 (31, 0) = A499 (31, 0)).trans f509
  have f532 : A521 (33, 0) = some (q161, .inl (cZ, 4, .inl (fun _ => 0))) := (by rw [eA521]; exact gU_n (gne (show (33 : Nat) ≠ 20 by decide)) : A521 (33, 0) = A499 (33, 0)).trans f510
  have f533 : A521 (34, 0) = some (q188, .inl (cI, 160, .inl (fun _ => 0))) := (by rw [eA521]; exact gU_n (gne (show (34 : Nat) ≠ 20 by decide)) : A521 (34, 0) = A499 (34, 0)).trans f511
  have f534 : A521 (35, 0) = some (q217, .inl (cI, 160, .inl (fun _ => 0))) := (by rw [eA521]; exact gU_n (gne (show (35 : Nat) ≠ 20 by decide)) : A521 (35, 0) = A499 (35, 0)).trans f512
  have f535 : A521 (36, 0) = some (q248, .inl (cI, 480, .inl (fun _ => 0))) := (by rw [eA521]; exact gU_n (gne (show (36 : Nat) ≠ 20 by decide)) : A521 (36, 0) = A499 (36, 0)).trans f513
  have f536 : A521 (37, 0) = some (q281, .inl (cI, 160, .inl (fun _ => 0))) := (by rw [eA521]; exact gU_n (gne (show (37 : Nat) ≠ 20 by decide)) : A521 (37, 0) = A499 (37, 0)).trans f514
  have f537 : A521 (38, 0) = some (q316, .inl (cI, 160, .inl (fun _ => 0))) := (by rw [eA521]; exact gU_n (gne (show (38 : Nat) ≠ 20 by decide)) : A521 (38, 0) = A499 (38, 0)).trans f515
  have f538 : A521 (39, 0) = some (q353, .inl (cI, 160, .inl (fun _ => 0))) := (by rw [eA521]; exact gU_n (gne (show (39 : Nat) ≠ 20 by decide)) : A521 (39, 0) = A499 (39, 0)).trans f516
  have f539 : A521 (40, 0) = some (q392, .inl (cL, 160, .inr (.inl (fun _ => 0)))) := (by rw [eA521]; exact gU_n (gne (show (40 : Nat) ≠ 20 by decide)) : A521 (40, 0) = A499 (40, 0)).trans f517
  have f540 : A521 (41, 0) = some (q433, .inl (cZ, 160, .inl (fun _ => 0))) := (by rw [eA521]; exact gU_n (gne (show (41 : Nat) ≠ 20 by decide)) : A521 (41, 0) = A499 (41, 0)).trans f518
  have f541 : A521 (42, 0) = some (q476, .inl (cZ, 160, .inl (fun _ => 0))) := (by rw [eA521]; exact gU_n (gne (show (42 : Nat) ≠ 20 by decide)) : A521 (42, 0) = A499 (42, 0)).trans f519
  have f542 : A521 (20, 0) = some (h, .inr (5, [.ref q1, .ref q8, .int 0, .ref q17, .ref q28, .ref q41, .ref q56, .ref q73, .ref q92, .ref q113, .ref q136, .int 0, .ref q161, .ref q188, .ref q217, .ref q248, .ref q281, .ref q316, .ref q353, .ref q392, .ref q433, .ref q476, .int 0, .int (-1)])) := by rw [eA521]; exact gU_s
  have glA521 : gL A A521 := by rw [eA521]; exact glA499.U (by decide)
  have hM := rMM.mk0 (cI := cI) (cZ := cZ) (cL := cL) f542 f522 f523 f524 f525 f526 f527 f528 f529 f530 f531 f532 f533 f534 f535 f536 f537 f538 f540 f541 f539
  have hR : mRep (fun _ _ => 0) (fun _ => 0) ([], [], fun _ => false, [], 0) 0 := ⟨fun _ hj => absurd hj (Nat.not_lt_zero _), fun _ hj => absurd hj (Nat.not_lt_zero _), fun _ _ _ => rfl, fun _ _ => rfl, fun _ hj => absurd hj (Nat.not_lt_zero _), fun _ _ _ => rfl, fun _ hj => absurd hj (Nat.not_lt_zero _)⟩
  refine W.widen (k := 20) (n := 2202) (by decide) (by decide) ?_
  exact W.vret hx hb hr (fun t ht _ => ⟨⟨A521, rfl, ⟨⟨_, _, _, hM, hR⟩, glA521⟩, show gP D classes b A521 t.heap by rw [ht]; exact hP⟩, hS.F ht⟩) hS.2.2 d_MM_init_175
