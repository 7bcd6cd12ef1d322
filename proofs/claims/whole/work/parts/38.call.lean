def sCall (σ : Bk) (m t xa xb xc : Int32) : Bk × Int64 := if inR m 0 3 && inR t 0 7 then (if 160 ≤ (kIs σ).length then (σ, xNONE) else (((calS (kSt σ) 4 (kRs σ) (kIs σ).length m.toNatClampNeg t.toNatClampNeg (xa, xb, xc) 0 (-1)).1, kIs σ ++ (calS (kSt σ) 4 (kRs σ) (kIs σ).length m.toNatClampNeg t.toNatClampNeg (xa, xb, xc) 0 (-1)).2.1, kSt σ, kBu σ, kMk σ), (calS (kSt σ) 4 (kRs σ) (kIs σ).length m.toNatClampNeg t.toNatClampNeg (xa, xb, xc) 0 (-1)).2.2)) else (σ, xNONE)
set_option maxHeartbeats 4000000 in
set_option maxRecDepth 100000 in
theorem c_MB_call (l : Launch) {D : va_G} {cI cZ cO cL : ClassId} {b e0 : Nat} {A : gW} {h : Nat} {σ : Bk} (hB : rBk cI cZ cO e0 A h σ) (hw : wf σ) (x y xa xb xc : Int32) : Met l y_MB_call (Cond.code y_MB_call b_MB_call 6 (some .long) :: TT) ({ frames := 33, cells := 8, slots := 1004, locals := 957 }) (va_Pc [.ref h, .int x, .int y, .int xa, .int xb, .int xc] (gI D [(cI, .int), (cZ, .boolean), (cO, .object "java/lang/Object"), (cL, .long)] b e0 A)) (va_Ql (fun (z : Int64) (A2 : gW) => z = (sCall σ x y xa xb xc).2 ∧ rBk cI cZ cO e0 A2 h (sCall σ x y xa xb xc).1 ∧ gO A A2) (fun A2 t => gP D classes b A2 t.heap) (fun q => b ≤ q)) 8 1004 (fun q => b ≤ q) := by
  refine Met.ofG (own := R_MB) (by decide +kernel) rfl (Nat.le_of_ble_eq_true rfl) ?_
  intro p e s m below meth c ls hx hb hr hlk hml hown hnm hts hI hl
  have hl : lv_has ls 6 [(0, .ref h), (1, .int x), (2, .int y), (3, .int xa), (4, .int xb), (5, .int xc)] := hl
  have hS : gS b s.heap s.heap [] := va_S.rf
  obtain ⟨hP, hK⟩ := hI
  obtain ⟨ra, ia, sa, ua, aR, aI, aM, fs, fB, hLR, hLI, fS, hfs, hBu, hRs, hIs⟩ := id hB
  obtain ⟨w1, w2, w3, w4, w5, w6, w7, w8⟩ := id hw
  obtain ⟨moR, qR, capR, efR, fLR, -⟩ := id hLR
  obtain ⟨moI, qI, capI, efI, fLI, -⟩ := id hLI
  obtain ⟨hk, hv, fk, fv, fM, fK, fV, hn3, hms⟩ := id hBu
  have hQ : rBq cI cZ cO e0 A h ra ia sa ua aR aI aM fs σ := ⟨fB, hLR, hLI, fS, hfs, hBu, hRs, hIs⟩
  refine lv_iload_n hx hb d_MB_call_0 rfl (lv_at hl 1 rfl) ?_
  refine lv_iload_n hx hb d_MB_call_1 rfl (lv_at hl 2 rfl) ?_
  refine g_ri (g_runS (As := [.int x, .int y]) (rest := []) ⟨hx, hb, hml, hown, hts⟩ (c_MB_isMethod l x y) st_MB_isMethod k_107 ⟨rfl, rfl, by decide, by decide⟩ (gT_pre _) rfl hl.1 rfl (Nat.le_of_ble_eq_true rfl) d_MB_call_2 ⟨by decide, by decide⟩) (fun r1 hr1 => ?_)
  subst hr1
  refine lv_if_eq (tgt := 21) hx hb d_MB_call_5 (by decide) (fun c2 => ?_) (fun c2 => ?_)
  · skip
    rw [bI_0] at c2
    refine lv_ldc2 (v := 60000000000) hx hb hown (hts _ k_257) d_MB_call_21 ?_
    have e9 : sCall σ x y xa xb xc = (σ, xNONE) := by unfold sCall; rw [if_neg (by simp_all)]
    refine W.widen (k := 8) (n := 1004) (by decide) (by decide) ?_
    exact W.lret hx hb hr (fun t ht _ => ⟨⟨_, A, rfl, ⟨by rw [e9]; rfl, by rw [e9]; exact hB, gO.rf⟩, show gP D classes b A t.heap by rw [ht]; exact hP⟩, hS.F ht⟩) hS.2.2 d_MB_call_24
  · skip
    rw [bI_0] at c2
    have hin : inR x 0 3 = true ∧ inR y 0 7 = true := by simpa using c2
    obtain ⟨mk, hmk, rfl⟩ := inR_of (M := 3) (n := 3) (by decide) hin.1
    obtain ⟨mt, hmt, rfl⟩ := inR_of (M := 7) (n := 7) (by decide) hin.2
    have hc1 := nI_clamp (show mk < 2 ^ 31 by omega)
    have hc2 := nI_clamp (show mt < 2 ^ 31 by omega)
    refine lv_aload_n hx hb d_MB_call_8 rfl (lv_at hl 0 rfl) ?_
    refine g_get hx hb hts i_MB hown hK.1 hP fB rfl 1 (by decide) (hts _ k_69) (fun _ h9 => h9) rfl d_MB_call_9 ?_
    refine g_ri (g_runV (As := []) (rest := []) ⟨hx, hb, hml, hown, hts⟩ (c_AL_size l hLI) st_AL_size k_120 ⟨rfl, rfl, by decide, by decide⟩ rfl (gI.preV hK hS hP fLI rfl _) rfl hl.1 rfl (Nat.le_of_ble_eq_true rfl) d_MB_call_12 ⟨by decide, by decide⟩) (fun r3 hr3 => ?_)
    subst hr3
    refine lv_sipush (v := 160) hx hb d_MB_call_15 (by decide) ?_
    refine lv_icmp_lt (tgt := 25) hx hb d_MB_call_18 (by decide) (fun c4 => ?_) (fun c4 => ?_)
    · skip
      replace c4 : (kIs σ).length < 160 := (nI_ltI (a := (kIs σ).length) (b := 160) (by omega) (by decide)).mp c4
      refine lv_aload_n hx hb d_MB_call_25 rfl (lv_at hl 0 rfl) ?_
      refine lv_iload_n hx hb d_MB_call_26 rfl (lv_at hl 1 rfl) ?_
      refine lv_iload_n hx hb d_MB_call_27 rfl (lv_at hl 2 rfl) ?_
      refine lv_iload_n hx hb d_MB_call_28 rfl (lv_at hl 3 rfl) ?_
      refine lv_iload hx hb d_MB_call_29 (lv_at hl 4 rfl) ?_
      refine lv_iload hx hb d_MB_call_31 (lv_at hl 5 rfl) ?_
      refine lv_iconst (v := 0) hx hb d_MB_call_33 (by decide) ?_
      refine lv_iconst (v := (-1)) hx hb d_MB_call_34 (by decide) ?_
      refine g_cl (B := fun A2 H => gP D classes b A2 H) (g_runV (As := [.int (nI mk), .int (nI mt), .int xa, .int xb, .int xc, .int 0, .int (-1)]) (rest := []) ⟨hx, hb, hml, hown, hts⟩ (NR_all l 4 A h ra ia sa ua aR aI aM fs σ mk mt 0 xa xb xc (-1) hQ hw.C (by omega) (by omega) rfl) st_MB_noteAndRespond k_258 ⟨rfl, rfl, by decide, by decide⟩ rfl (gI.preV hK hS hP fB rfl _) rfl hl.1 rfl (Nat.le_of_ble_eq_true rfl) d_MB_call_35 ⟨by decide, by decide⟩) hS (fun r7 A5 H locs hp6 hP hS => ?_)
      replace hP : gP D classes b A5 H := hP
      refine W.widen (k := 8) (n := 1004) (by decide) (by decide) ?_
      obtain ⟨hz, ⟨aI5, haI5, hQ5⟩, go5⟩ := hp6
      have e9 : sCall σ (nI mk) (nI mt) xa xb xc = (((calS (kSt σ) 4 (kRs σ) (kIs σ).length mk mt (xa, xb, xc) 0 (-1)).1, kIs σ ++ (calS (kSt σ) 4 (kRs σ) (kIs σ).length mk mt (xa, xb, xc) 0 (-1)).2.1, kSt σ, kBu σ, kMk σ), (calS (kSt σ) 4 (kRs σ) (kIs σ).length mk mt (xa, xb, xc) 0 (-1)).2.2) := by unfold sCall; rw [if_pos (by simp_all), hc1, hc2, if_neg (by omega)]
      refine W.widen (k := 8) (n := 1004) (by decide) (by decide) ?_
      exact W.lret hx hb hr (fun t ht _ => ⟨⟨_, A5, rfl, ⟨by rw [e9]; exact hz, by rw [e9]; exact hQ5.k, go5⟩, show gP D classes b A5 t.heap by rw [ht]; exact hP⟩, hS.F ht⟩) hS.2.2 d_MB_call_38
    · skip
      replace c4 : ¬ (kIs σ).length < 160 := fun q => c4 ((nI_ltI (a := (kIs σ).length) (b := 160) (by omega) (by decide)).mpr q)
      refine lv_ldc2 (v := 60000000000) hx hb hown (hts _ k_257) d_MB_call_21 ?_
      have e9 : sCall σ (nI mk) (nI mt) xa xb xc = (σ, xNONE) := by unfold sCall; rw [if_pos (by simp_all), hc1, hc2, if_pos (by omega)]
      refine W.widen (k := 8) (n := 1004) (by decide) (by decide) ?_
      exact W.lret hx hb hr (fun t ht _ => ⟨⟨_, A, rfl, ⟨by rw [e9]; rfl, by rw [e9]; exact hB, gO.rf⟩, show gP D classes b A t.heap by rw [ht]; exact hP⟩, hS.F ht⟩) hS.2.2 d_MB_call_24
set_option maxHeartbeats 4000000 in
set_option maxRecDepth 100000 in
theorem c_MB_init (l : Launch) {D : va_G} {cI cZ cO cL : ClassId} {b e0 : Nat} {A : gW} {h : Nat} (f0 : A (0, 0) = some (h, .inr (0, [.null, .null, .null, .null, .int 0]))) (fE : A (3, 0) = some (e0, .inl (cO, 0, .inr (.inr (.inr (.inr fun _ => none)))))) : Met l y_MB_init (Cond.code y_MB_init b_MB_init 1 none :: TT) ({ frames := 4, cells := 6, slots := 19, locals := 72 }) (va_Pc [.ref h] (gI D [(cI, .int), (cZ, .boolean), (cO, .object "java/lang/Object"), (cL, .long)] b e0 A)) (va_Qv (fun A2 : gW => rBk cI cZ cO e0 A2 h ([], [], fun _ => false, [], 0) ∧ gO A A2) (fun A2 t => gP D classes b A2 t.heap) (fun q => b ≤ q)) 6 19 (fun q => b ≤ q) := by
  refine Met.ofG (own := R_MB) (by decide +kernel) rfl (Nat.le_of_ble_eq_true rfl) ?_
  intro p e s m below meth c ls hx hb hr hlk hml hown hnm hts hI hl
  have hl : lv_has ls 1 [(0, .ref h)] := hl
  have hS : gS b s.heap s.heap [] := va_S.rf
  obtain ⟨hP, hK⟩ := hI
  refine lv_aload_n hx hb d_MB_init_0 rfl (lv_at hl 0 rfl) ?_
  refine W.objInit hx hb hown (hts _ k_20) (hts _ k_21) (hts _ k_22) rfl (by rw [hml]; exact hl.1) rfl d_MB_init_1 (Nat.le_of_ble_eq_true rfl) (Nat.le_of_ble_eq_true rfl) ?_
  refine W.eq (g2 := F0 m 4 ls []) rfl ?_
  refine lv_aload_n hx hb d_MB_init_4 rfl (lv_at hl 0 rfl) ?_
  refine g_new (ci := 4) (fs := [.int 0, .null, .int 0]) hx hb hts i_AL t_AL t_AL_ok hown (hts _ k_23) (hts _ k_24) (hts _ k_4) hK.1 hP hS (1, 0) rfl (fun j hj => by rcases (show j = 0 ∨ j = 1 ∨ j = 2 by omega) with rfl | rfl | rfl <;> rfl) (by decide) (by decide) d_MB_init_5 (fun q1 H hP hS => ?_)
  refine W.widen (k := 1) (n := 3) (by decide) (by decide) ?_
  obtain ⟨A2, eA2⟩ : ∃ z, z = gU A (1, 0) (q1, .inr (4, [.int 0, .null, .int 0])) := ⟨_, rfl⟩
  replace hP : gP D classes b A2 H := by rw [eA2]; exact hP
  have f3 : A2 (0, 0) = some (h, .inr (0, [.null, .null, .null, .null, .int 0])) := (by rw [eA2]; exact gU_n (gne (show (0 : Nat) ≠ 1 by decide)) : A2 (0, 0) = A (0, 0)).trans f0
  have f4 : A2 (3, 0) = some (e0, .inl (cO, 0, .inr (.inr (.inr (.inr (fun _ => none)))))) := (by rw [eA2]; exact gU_n (gne (show (3 : Nat) ≠ 1 by decide)) : A2 (3, 0) = A (3, 0)).trans fE
  have f5 : A2 (1, 0) = some (q1, .inr (4, [.int 0, .null, .int 0])) := by rw [eA2]; exact gU_s
  have go6 : gO A A2 := by rw [eA2]; exact (gF_U gF.rf (by decide) : gF [1] 0 A _).out rfl
  refine lv_dup hx hb d_MB_init_8 rfl ?_
  refine g_cv (B := fun A2 H => gP D classes b A2 H) (g_runI (b := q1) (As := []) (rest := [.ref q1, .ref h]) ⟨hx, hb, hml, hown, hts⟩ (c_AL_init l f5 f4 8 2 (fun _ => 0)) st_AL_init k_25 ⟨rfl, rfl, by decide, by decide⟩ (gI.pre hK hS hP _) rfl hl.1 rfl (Nat.le_of_ble_eq_true rfl) d_MB_init_9 ⟨by decide, by decide⟩) hS (fun A7 H locs hp8 hP hS => ?_)
  replace hP : gP D classes b A7 H := hP
  refine W.widen (k := 1) (n := 3) (by decide) (by decide) ?_
  obtain ⟨hL0, gL0⟩ := hp8
  have f9 : A7 (0, 0) = some (h, .inr (0, [.null, .null, .null, .null, .int 0])) := (gL0.at (n := 0) (j := 0) (by decide)).trans f3
  have f10 : A7 (3, 0) = some (e0, .inl (cO, 0, .inr (.inr (.inr (.inr (fun _ => none)))))) := (gL0.at (n := 3) (j := 0) (by decide)).trans f4
  have go11 := gL0.out rfl
  refine g_putF (ty := (.object "java/util/ArrayList")) (v := .ref q1) hx hb hts i_MB t_MB t_MB_ok n_MB hown hK.1 hP hS f9 rfl 0 (by decide) (hts _ k_68) (fun _ h9 => h9) rfl hnm rfl (by decide +kernel) rfl rfl (Nat.le_of_ble_eq_true rfl) d_MB_init_12 (fun H locs hP hS => ?_)
  obtain ⟨A12, eA12⟩ : ∃ z, z = gU A7 (0, 0) (h, .inr (0, [.ref q1, .null, .null, .null, .int 0])) := ⟨_, rfl⟩
  replace hP : gP D classes b A12 H := by rw [eA12]; exact hP
  have f13 : A12 (3, 0) = some (e0, .inl (cO, 0, .inr (.inr (.inr (.inr (fun _ => none)))))) := (by rw [eA12]; exact gU_n (gne (show (3 : Nat) ≠ 0 by decide)) : A12 (3, 0) = A7 (3, 0)).trans f10
  have f14 : A12 (0, 0) = some (h, .inr (0, [.ref q1, .null, .null, .null, .int 0])) := by rw [eA12]; exact gU_s
  have go15 : gO A7 A12 := by rw [eA12]; exact (gF_U gF.rf (by decide) : gF [0] 0 A7 _).out rfl
  refine lv_aload_n hx hb d_MB_init_15 rfl (lv_at hl 0 rfl) ?_
  refine g_new (ci := 4) (fs := [.int 0, .null, .int 0]) hx hb hts i_AL t_AL t_AL_ok hown (hts _ k_23) (hts _ k_24) (hts _ k_4) hK.1 hP hS (1, 1) rfl (fun j hj => by rcases (show j = 0 ∨ j = 1 ∨ j = 2 by omega) with rfl | rfl | rfl <;> rfl) (by decide) (by decide) d_MB_init_16 (fun q16 H hP hS => ?_)
  refine W.widen (k := 2) (n := 6) (by decide) (by decide) ?_
  obtain ⟨A17, eA17⟩ : ∃ z, z = gU A12 (1, 1) (q16, .inr (4, [.int 0, .null, .int 0])) := ⟨_, rfl⟩
  replace hP : gP D classes b A17 H := by rw [eA17]; exact hP
  have f18 : A17 (0, 0) = some (h, .inr (0, [.ref q1, .null, .null, .null, .int 0])) := (by rw [eA17]; exact gU_n (gne (show (0 : Nat) ≠ 1 by decide)) : A17 (0, 0) = A12 (0, 0)).trans f14
  have f19 : A17 (3, 0) = some (e0, .inl (cO, 0, .inr (.inr (.inr (.inr (fun _ => none)))))) := (by rw [eA17]; exact gU_n (gne (show (3 : Nat) ≠ 1 by decide)) : A17 (3, 0) = A12 (3, 0)).trans f13
  have f20 : A17 (1, 1) = some (q16, .inr (4, [.int 0, .null, .int 0])) := by rw [eA17]; exact gU_s
  have go21 : gO A12 A17 := by rw [eA17]; exact (gF_U gF.rf (by decide) : gF [1] 1 A12 _).out rfl
  refine lv_dup hx hb d_MB_init_19 rfl ?_
  refine g_cv (B := fun A2 H => gP D classes b A2 H) (g_runI (b := q16) (As := []) (rest := [.ref q16, .ref h]) ⟨hx, hb, hml, hown, hts⟩ (c_AL_init l f20 f19 11 3 (fun _ => 0)) st_AL_init k_25 ⟨rfl, rfl, by decide, by decide⟩ (gI.pre hK hS hP _) rfl hl.1 rfl (Nat.le_of_ble_eq_true rfl) d_MB_init_20 ⟨by decide, by decide⟩) hS (fun A22 H locs hp23 hP hS => ?_)
  replace hP : gP D classes b A22 H := hP
  refine W.widen (k := 2) (n := 6) (by decide) (by decide) ?_
  obtain ⟨hL1, gL1⟩ := hp23
  have f24 : A22 (0, 0) = some (h, .inr (0, [.ref q1, .null, .null, .null, .int 0])) := (gL1.at (n := 0) (j := 0) (by decide)).trans f18
  have f25 : A22 (3, 0) = some (e0, .inl (cO, 0, .inr (.inr (.inr (.inr (fun _ => none)))))) := (gL1.at (n := 3) (j := 0) (by decide)).trans f19
  have go26 := gL1.out rfl
  refine g_putF (ty := (.object "java/util/ArrayList")) (v := .ref q16) hx hb hts i_MB t_MB t_MB_ok n_MB hown hK.1 hP hS f24 rfl 1 (by decide) (hts _ k_69) (fun _ h9 => h9) rfl hnm rfl (by decide +kernel) rfl rfl (Nat.le_of_ble_eq_true rfl) d_MB_init_23 (fun H locs hP hS => ?_)
  obtain ⟨A27, eA27⟩ : ∃ z, z = gU A22 (0, 0) (h, .inr (0, [.ref q1, .ref q16, .null, .null, .int 0])) := ⟨_, rfl⟩
  replace hP : gP D classes b A27 H := by rw [eA27]; exact hP
  have f28 : A27 (3, 0) = some (e0, .inl (cO, 0, .inr (.inr (.inr (.inr (fun _ => none)))))) := (by rw [eA27]; exact gU_n (gne (show (3 : Nat) ≠ 0 by decide)) : A27 (3, 0) = A22 (3, 0)).trans f25
  have f29 : A27 (0, 0) = some (h, .inr (0, [.ref q1, .ref q16, .null, .null, .int 0])) := by rw [eA27]; exact gU_s
  have go30 : gO A22 A27 := by rw [eA27]; exact (gF_U gF.rf (by decide) : gF [0] 0 A22 _).out rfl
  refine lv_aload_n hx hb d_MB_init_26 rfl (lv_at hl 0 rfl) ?_
  refine lv_iconst (v := 4) hx hb d_MB_init_27 (by decide) ?_
  refine g_newa (atype := .boolean) (a0 := (4, .inl (fun _ => 0))) (N' := 4) hx hb (hts _ k_66) rfl hK.1 hP hS (4, 0) (hK.1.2 1 _ rfl).2 rfl (by decide) (by decide) (by decide) (by decide) (by decide) d_MB_init_28 (fun q31 H hP hS => ?_)
  refine W.widen (k := 3) (n := 10) (by decide) (by decide) ?_
  obtain ⟨A32, eA32⟩ : ∃ z, z = gU A27 (4, 0) (q31, .inl (cZ, 4, .inl (fun _ => 0))) := ⟨_, rfl⟩
  replace hP : gP D classes b A32 H := by rw [eA32]; exact hP
  have f33 : A32 (0, 0) = some (h, .inr (0, [.ref q1, .ref q16, .null, .null, .int 0])) := (by rw [eA32]; exact gU_n (gne (show (0 : Nat) ≠ 4 by decide)) : A32 (0, 0) = A27 (0, 0)).trans f29
  have f34 : A32 (3, 0) = some (e0, .inl (cO, 0, .inr (.inr (.inr (.inr (fun _ => none)))))) := (by rw [eA32]; exact gU_n (gne (show (3 : Nat) ≠ 4 by decide)) : A32 (3, 0) = A27 (3, 0)).trans f28
  have f35 : A32 (4, 0) = some (q31, .inl (cZ, 4, .inl (fun _ => 0))) := by rw [eA32]; exact gU_s
  have go36 : gO A27 A32 := by rw [eA32]; exact (gF_U gF.rf (by decide) : gF [4] 0 A27 _).out rfl
  refine g_putF (ty := (.array .boolean)) (v := .ref q31) hx hb hts i_MB t_MB t_MB_ok n_MB hown hK.1 hP hS f33 rfl 2 (by decide) (hts _ k_70) (fun _ h9 => h9) rfl hnm rfl (by decide +kernel) rfl rfl (Nat.le_of_ble_eq_true rfl) d_MB_init_30 (fun H locs hP hS => ?_)
  obtain ⟨A37, eA37⟩ : ∃ z, z = gU A32 (0, 0) (h, .inr (0, [.ref q1, .ref q16, .ref q31, .null, .int 0])) := ⟨_, rfl⟩
  replace hP : gP D classes b A37 H := by rw [eA37]; exact hP
  have f38 : A37 (3, 0) = some (e0, .inl (cO, 0, .inr (.inr (.inr (.inr (fun _ => none)))))) := (by rw [eA37]; exact gU_n (gne (show (3 : Nat) ≠ 0 by decide)) : A37 (3, 0) = A32 (3, 0)).trans f34
  have f39 : A37 (4, 0) = some (q31, .inl (cZ, 4, .inl (fun _ => 0))) := (by rw [eA37]; exact gU_n (gne (show (4 : Nat) ≠ 0 by decide)) : A37 (4, 0) = A32 (4, 0)).trans f35
  have f40 : A37 (0, 0) = some (h, .inr (0, [.ref q1, .ref q16, .ref q31, .null, .int 0])) := by rw [eA37]; exact gU_s
  have go41 : gO A32 A37 := by rw [eA37]; exact (gF_U gF.rf (by decide) : gF [0] 0 A32 _).out rfl
  refine lv_aload_n hx hb d_MB_init_33 rfl (lv_at hl 0 rfl) ?_
  refine g_new (ci := 1) (fs := [.null, .null, .int 0]) hx hb hts i_Ma t_Ma t_Ma_ok hown (hts _ k_49) (hts _ k_50) (hts _ k_5) hK.1 hP hS (5, 0) rfl (fun j hj => by rcases (show j = 0 ∨ j = 1 ∨ j = 2 by omega) with rfl | rfl | rfl <;> rfl) (by decide) (by decide) d_MB_init_34 (fun q42 H hP hS => ?_)
  refine W.widen (k := 4) (n := 13) (by decide) (by decide) ?_
  obtain ⟨A43, eA43⟩ : ∃ z, z = gU A37 (5, 0) (q42, .inr (1, [.null, .null, .int 0])) := ⟨_, rfl⟩
  replace hP : gP D classes b A43 H := by rw [eA43]; exact hP
  have f44 : A43 (0, 0) = some (h, .inr (0, [.ref q1, .ref q16, .ref q31, .null, .int 0])) := (by rw [eA43]; exact gU_n (gne (show (0 : Nat) ≠ 5 by decide)) : A43 (0, 0) = A37 (0, 0)).trans f40
  have f45 : A43 (3, 0) = some (e0, .inl (cO, 0, .inr (.inr (.inr (.inr (fun _ => none)))))) := (by rw [eA43]; exact gU_n (gne (show (3 : Nat) ≠ 5 by decide)) : A43 (3, 0) = A37 (3, 0)).trans f38
  have f46 : A43 (4, 0) = some (q31, .inl (cZ, 4, .inl (fun _ => 0))) := (by rw [eA43]; exact gU_n (gne (show (4 : Nat) ≠ 5 by decide)) : A43 (4, 0) = A37 (4, 0)).trans f39
  have f47 : A43 (5, 0) = some (q42, .inr (1, [.null, .null, .int 0])) := by rw [eA43]; exact gU_s
  have go48 : gO A37 A43 := by rw [eA43]; exact (gF_U gF.rf (by decide) : gF [5] 0 A37 _).out rfl
  refine lv_dup hx hb d_MB_init_37 rfl ?_
  refine g_cv (B := fun A2 H => gP D classes b A2 H) (g_runIN (b := q42) (As := []) (rest := [.ref q42, .ref h]) ⟨hx, hb, hml, hown, hts⟩ (c_Ma_init l f47) st_Ma_init (hK.2.1 _ (List.mem_of_getElem? (i := 0) rfl)) ⟨rfl, rfl, by decide, by decide⟩ (gI.pre hK hS hP _) rfl hl.1 rfl (Nat.le_of_ble_eq_true rfl) d_MB_init_38 ⟨by decide, by decide⟩) hS (fun A49 H locs hp50 hP hS => ?_)
  replace hP : gP D classes b A49 H := hP
  refine W.widen (k := 6) (n := 19) (by decide) (by decide) ?_
  obtain ⟨hm4, gm4⟩ := hp50
  have f51 : A49 (0, 0) = some (h, .inr (0, [.ref q1, .ref q16, .ref q31, .null, .int 0])) := (gm4.at (n := 0) (j := 0) (by decide)).trans f44
  have f52 : A49 (3, 0) = some (e0, .inl (cO, 0, .inr (.inr (.inr (.inr (fun _ => none)))))) := (gm4.at (n := 3) (j := 0) (by decide)).trans f45
  have f53 : A49 (4, 0) = some (q31, .inl (cZ, 4, .inl (fun _ => 0))) := (gm4.at (n := 4) (j := 0) (by decide)).trans f46
  have go54 := gm4.out rfl
  refine g_put (ty := (.object "MockBook$Matchers")) (v := .ref q42) hx hb hts i_MB t_MB t_MB_ok n_MB hown hK.1 hP hS f51 rfl 3 (by decide) (hts _ k_71) (fun _ h9 => h9) rfl (by decide +kernel) rfl rfl (Nat.le_of_ble_eq_true rfl) d_MB_init_41 (fun H locs hP hS => ?_)
  obtain ⟨A55, eA55⟩ : ∃ z, z = gU A49 (0, 0) (h, .inr (0, [.ref q1, .ref q16, .ref q31, .ref q42, .int 0])) := ⟨_, rfl⟩
  replace hP : gP D classes b A55 H := by rw [eA55]; exact hP
  have f56 : A55 (3, 0) = some (e0, .inl (cO, 0, .inr (.inr (.inr (.inr (fun _ => none)))))) := (by rw [eA55]; exact gU_n (gne (show (3 : Nat) ≠ 0 by decide)) : A55 (3, 0) = A49 (3, 0)).trans f52
  have f57 : A55 (4, 0) = some (q31, .inl (cZ, 4, .inl (fun _ => 0))) := (by rw [eA55]; exact gU_n (gne (show (4 : Nat) ≠ 0 by decide)) : A55 (4, 0) = A49 (4, 0)).trans f53
  have f58 : A55 (0, 0) = some (h, .inr (0, [.ref q1, .ref q16, .ref q31, .ref q42, .int 0])) := by rw [eA55]; exact gU_s
  have go59 : gO A49 A55 := by rw [eA55]; exact (gF_U gF.rf (by decide) : gF [0] 0 A49 _).out rfl
  refine lv_aload_n hx hb d_MB_init_44 rfl (lv_at hl 0 rfl) ?_
  refine lv_iconst (v := (-1)) hx hb d_MB_init_45 (by decide) ?_
  refine g_put (ty := .int) (v := .int (-1)) hx hb hts i_MB t_MB t_MB_ok n_MB hown hK.1 hP hS f58 rfl 4 (by decide) (hts _ k_72) (fun _ h9 => h9) rfl (by decide +kernel) rfl rfl (Nat.le_of_ble_eq_true rfl) d_MB_init_46 (fun H locs hP hS => ?_)
  obtain ⟨A60, eA60⟩ : ∃ z, z = gU A55 (0, 0) (h, .inr (0, [.ref q1, .ref q16, .ref q31, .ref q42, .int (-1)])) := ⟨_, rfl⟩
  replace hP : gP D classes b A60 H := by rw [eA60]; exact hP
  have f61 : A60 (3, 0) = some (e0, .inl (cO, 0, .inr (.inr (.inr (.inr (fun _ => none)))))) := (by rw [eA60]; exact gU_n (gne (show (3 : Nat) ≠ 0 by decide)) : A60 (3, 0) = A55 (3, 0)).trans f56
  have f62 : A60 (4, 0) = some (q31, .inl (cZ, 4, .inl (fun _ => 0))) := (by rw [eA60]; exact gU_n (gne (show (4 : Nat) ≠ 0 by decide)) : A60 (4, 0) = A55 (4, 0)).trans f57
  have f63 : A60 (0, 0) = some (h, .inr (0, [.ref q1, .ref q16, .ref q31, .ref q42, .int (-1)])) := by rw [eA60]; exact gU_s
  have go64 : gO A55 A60 := by rw [eA60]; exact (gF_U gF.rf (by decide) : gF [0] 0 A55 _).out rfl
  have k0 := hL0.keep' ((by rw [eA60]; exact gU_n (gne (show (1 : Nat) ≠ 0 by decide)) : A60 (1, 0) = A55 (1, 0)).trans ((by rw [eA55]; exact gU_n (gne (show (1 : Nat) ≠ 0 by decide)) : A55 (1, 0) = A49 (1, 0)).trans ((gm4.at (n := 1) (j := 0) rfl).trans ((by rw [eA43]; exact gU_n (gne (show (1 : Nat) ≠ 5 by decide)) : A43 (1, 0) = A37 (1, 0)).trans ((by rw [eA37]; exact gU_n (gne (show (1 : Nat) ≠ 0 by decide)) : A37 (1, 0) = A32 (1, 0)).trans ((by rw [eA32]; exact gU_n (gne (show (1 : Nat) ≠ 4 by decide)) : A32 (1, 0) = A27 (1, 0)).trans ((by rw [eA27]; exact gU_n (gne (show (1 : Nat) ≠ 0 by decide)) : A27 (1, 0) = A22 (1, 0)).trans ((gL1.at2 (n := 1) (j := 0) (by decide)).trans ((by rw [eA17]; exact gU_n (gne2 (show 0 ≠ 1 by omega)) : A17 (1, 0) = A12 (1, 0)).trans (by rw [eA12]; exact gU_n (gne (show (1 : Nat) ≠ 0 by decide)) : A12 (1, 0) = A7 (1, 0))))))))))) ((by rw [eA60]; exact gU_n (gne (show (2 : Nat) ≠ 0 by decide)) : A60 (2, 0) = A55 (2, 0)).trans ((by rw [eA55]; exact gU_n (gne (show (2 : Nat) ≠ 0 by decide)) : A55 (2, 0) = A49 (2, 0)).trans ((gm4.at (n := 2) (j := 0) rfl).trans ((by rw [eA43]; exact gU_n (gne (show (2 : Nat) ≠ 5 by decide)) : A43 (2, 0) = A37 (2, 0)).trans ((by rw [eA37]; exact gU_n (gne (show (2 : Nat) ≠ 0 by decide)) : A37 (2, 0) = A32 (2, 0)).trans ((by rw [eA32]; exact gU_n (gne (show (2 : Nat) ≠ 4 by decide)) : A32 (2, 0) = A27 (2, 0)).trans ((by rw [eA27]; exact gU_n (gne (show (2 : Nat) ≠ 0 by decide)) : A27 (2, 0) = A22 (2, 0)).trans ((gL1.at (n := 2) (j := 0) rfl).trans ((by rw [eA17]; exact gU_n (gne (show (2 : Nat) ≠ 1 by decide)) : A17 (2, 0) = A12 (2, 0)).trans (by rw [eA12]; exact gU_n (gne (show (2 : Nat) ≠ 0 by decide)) : A12 (2, 0) = A7 (2, 0))))))))))) ((by rw [eA60]; exact gU_n (gne (show (3 : Nat) ≠ 0 by decide)) : A60 (3, 0) = A55 (3, 0)).trans ((by rw [eA55]; exact gU_n (gne (show (3 : Nat) ≠ 0 by decide)) : A55 (3, 0) = A49 (3, 0)).trans ((gm4.at (n := 3) (j := 0) rfl).trans ((by rw [eA43]; exact gU_n (gne (show (3 : Nat) ≠ 5 by decide)) : A43 (3, 0) = A37 (3, 0)).trans ((by rw [eA37]; exact gU_n (gne (show (3 : Nat) ≠ 0 by decide)) : A37 (3, 0) = A32 (3, 0)).trans ((by rw [eA32]; exact gU_n (gne (show (3 : Nat) ≠ 4 by decide)) : A32 (3, 0) = A27 (3, 0)).trans ((by rw [eA27]; exact gU_n (gne (show (3 : Nat) ≠ 0 by decide)) : A27 (3, 0) = A22 (3, 0)).trans ((gL1.at (n := 3) (j := 0) rfl).trans ((by rw [eA17]; exact gU_n (gne (show (3 : Nat) ≠ 1 by decide)) : A17 (3, 0) = A12 (3, 0)).trans (by rw [eA12]; exact gU_n (gne (show (3 : Nat) ≠ 0 by decide)) : A12 (3, 0) = A7 (3, 0))))))))))) (fun i hi => absurd hi (Nat.not_lt_zero i))
  have k1 := hL1.keep' ((by rw [eA60]; exact gU_n (gne (show (1 : Nat) ≠ 0 by decide)) : A60 (1, 1) = A55 (1, 1)).trans ((by rw [eA55]; exact gU_n (gne (show (1 : Nat) ≠ 0 by decide)) : A55 (1, 1) = A49 (1, 1)).trans ((gm4.at (n := 1) (j := 1) rfl).trans ((by rw [eA43]; exact gU_n (gne (show (1 : Nat) ≠ 5 by decide)) : A43 (1, 1) = A37 (1, 1)).trans ((by rw [eA37]; exact gU_n (gne (show (1 : Nat) ≠ 0 by decide)) : A37 (1, 1) = A32 (1, 1)).trans ((by rw [eA32]; exact gU_n (gne (show (1 : Nat) ≠ 4 by decide)) : A32 (1, 1) = A27 (1, 1)).trans (by rw [eA27]; exact gU_n (gne (show (1 : Nat) ≠ 0 by decide)) : A27 (1, 1) = A22 (1, 1)))))))) ((by rw [eA60]; exact gU_n (gne (show (2 : Nat) ≠ 0 by decide)) : A60 (2, 1) = A55 (2, 1)).trans ((by rw [eA55]; exact gU_n (gne (show (2 : Nat) ≠ 0 by decide)) : A55 (2, 1) = A49 (2, 1)).trans ((gm4.at (n := 2) (j := 1) rfl).trans ((by rw [eA43]; exact gU_n (gne (show (2 : Nat) ≠ 5 by decide)) : A43 (2, 1) = A37 (2, 1)).trans ((by rw [eA37]; exact gU_n (gne (show (2 : Nat) ≠ 0 by decide)) : A37 (2, 1) = A32 (2, 1)).trans ((by rw [eA32]; exact gU_n (gne (show (2 : Nat) ≠ 4 by decide)) : A32 (2, 1) = A27 (2, 1)).trans (by rw [eA27]; exact gU_n (gne (show (2 : Nat) ≠ 0 by decide)) : A27 (2, 1) = A22 (2, 1)))))))) ((by rw [eA60]; exact gU_n (gne (show (3 : Nat) ≠ 0 by decide)) : A60 (3, 0) = A55 (3, 0)).trans ((by rw [eA55]; exact gU_n (gne (show (3 : Nat) ≠ 0 by decide)) : A55 (3, 0) = A49 (3, 0)).trans ((gm4.at (n := 3) (j := 0) rfl).trans ((by rw [eA43]; exact gU_n (gne (show (3 : Nat) ≠ 5 by decide)) : A43 (3, 0) = A37 (3, 0)).trans ((by rw [eA37]; exact gU_n (gne (show (3 : Nat) ≠ 0 by decide)) : A37 (3, 0) = A32 (3, 0)).trans ((by rw [eA32]; exact gU_n (gne (show (3 : Nat) ≠ 4 by decide)) : A32 (3, 0) = A27 (3, 0)).trans (by rw [eA27]; exact gU_n (gne (show (3 : Nat) ≠ 0 by decide)) : A27 (3, 0) = A22 (3, 0)))))))) (fun i hi => absurd hi (Nat.not_lt_zero i))
  have km := hm4.keep ((by rw [eA60]; exact gU_n (gne (show (5 : Nat) ≠ 0 by decide)) : A60 (5, 0) = A55 (5, 0)).trans (by rw [eA55]; exact gU_n (gne (show (5 : Nat) ≠ 0 by decide)) : A55 (5, 0) = A49 (5, 0))) ((by rw [eA60]; exact gU_n (gne (show (6 : Nat) ≠ 0 by decide)) : A60 (6, 0) = A55 (6, 0)).trans (by rw [eA55]; exact gU_n (gne (show (6 : Nat) ≠ 0 by decide)) : A55 (6, 0) = A49 (6, 0))) ((by rw [eA60]; exact gU_n (gne (show (7 : Nat) ≠ 0 by decide)) : A60 (7, 0) = A55 (7, 0)).trans (by rw [eA55]; exact gU_n (gne (show (7 : Nat) ≠ 0 by decide)) : A55 (7, 0) = A49 (7, 0)))
  refine W.widen (k := 6) (n := 19) (by decide) (by decide) ?_
  exact W.vret hx hb hr (fun t ht _ => ⟨⟨A60, rfl, ⟨⟨q1, q16, q31, q42, fun _ => 0, fun _ => 0, fun _ => 0, fun _ => 0, f63, k0, k1, f62, fun j hj => rfl, km, fun i hi => absurd hi (Nat.not_lt_zero i), fun i hi => absurd hi (Nat.not_lt_zero i)⟩, (((((((((((go6).trans go11).trans go15).trans go21).trans go26).trans go30).trans go36).trans go41).trans go48).trans go54).trans go59).trans go64⟩, show gP D classes b A60 t.heap by rw [ht]; exact hP⟩, hS.F ht⟩) hS.2.2 d_MB_init_49
