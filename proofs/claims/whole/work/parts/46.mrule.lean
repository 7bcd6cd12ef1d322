theorem mRep.cg {F : Nat → Nat → Int32} {G : Nat → Int64} {σ : Bk} {gn gn2 : Nat} (e : gn = gn2) (h : mRep F G σ gn) : mRep F G σ gn2 := e ▸ h
theorem lenS {α : Type} (l : List α) (r : α) : (l ++ [r]).length = l.length + 1 := by simp
set_option maxHeartbeats 4000000 in
set_option maxRecDepth 100000 in
theorem c_MM_rule (l : Launch) {D : va_G} {cI cZ cO cL : ClassId} {b e0 : Nat} {A : gW} {h : Nat} {σ : Bk} (hB : rMo cI cZ cL A h σ) (hw : wf σ) (x y : Int32) : Met l y_MM_rule (Cond.code y_MM_rule b_MM_rule 4 (some .int) :: TT) ({ frames := 1, cells := 0, slots := 0, locals := 21 }) (va_Pc [.ref h, .int x, .int y] (gI D [(cI, .int), (cZ, .boolean), (cO, .object "java/lang/Object"), (cL, .long)] b e0 A)) (va_Qi (fun (z : Int32) (A2 : gW) => z = (sRule σ x y).2 ∧ rMo cI cZ cL A2 h (sRule σ x y).1 ∧ gL A A2) (fun A2 t => gP D classes b A2 t.heap) (fun q => b ≤ q)) 0 0 (fun q => b ≤ q) := by
  refine Met.ofG (own := R_MM) (by decide +kernel) rfl (Nat.le_of_ble_eq_true rfl) ?_
  intro p e s m below meth c ls hx hb hr hlk hml hown hnm hts hI hl
  have hl : lv_has ls 4 [(0, .ref h), (1, .int x), (2, .int y)] := hl
  have hS : gS b s.heap s.heap [] := va_S.rf
  obtain ⟨hP, hK⟩ := hI
  obtain ⟨ad, F, G, hM, hR⟩ := id hB
  obtain ⟨hb0, hru, hrz, hst, hit, hiz, hgn⟩ := id hR
  obtain ⟨w1, w2, w3, w4, w5, w6, w7, w8⟩ := id hw
  refine lv_iload_n hx hb d_MM_rule_0 rfl (lv_at hl 1 rfl) ?_
  refine lv_iload_n hx hb d_MM_rule_1 rfl (lv_at hl 2 rfl) ?_
  refine g_ri (g_runS (As := [.int x, .int y]) (rest := []) ⟨hx, hb, hml, hown, hts⟩ (c_MM_bad l x y) st_MM_bad k_529 ⟨rfl, rfl, by decide, by decide⟩ (gT_pre _) rfl hl.1 rfl (Nat.le_of_ble_eq_true rfl) d_MM_rule_2 ⟨by decide, by decide⟩) (fun r1 hr1 => ?_)
  subst hr1
  refine lv_if_ne (tgt := 18) hx hb d_MM_rule_5 (by decide) (fun c2 => ?_) (fun c2 => ?_)
  · skip
    rw [bI_0] at c2
    refine lv_iconst (v := (-1)) hx hb d_MM_rule_18 (by decide) ?_
    have e9 : sRule σ x y = (σ, -1) := by unfold sRule; rw [if_neg (by simp_all)]
    refine W.widen (k := 0) (n := 0) (by decide) (by decide) ?_
    exact W.iret hx hb hr (fun t ht _ => ⟨⟨_, A, rfl, ⟨by rw [e9], by rw [e9]; exact hB, gL.rf⟩, show gP D classes b A t.heap by rw [ht]; exact hP⟩, hS.F ht⟩) hS.2.2 d_MM_rule_19
  · skip
    rw [bI_0] at c2
    have hin : inR x 0 3 = true ∧ inR y 0 7 = true := by simpa using c2
    obtain ⟨mk, hmk, rfl⟩ := inR_of (M := 3) (n := 3) (by decide) hin.1
    obtain ⟨mt, hmt, rfl⟩ := inR_of (M := 7) (n := 7) (by decide) hin.2
    have hc1 := nI_clamp (show mk < 2 ^ 31 by omega)
    have hc2 := nI_clamp (show mt < 2 ^ 31 by omega)
    refine lv_aload_n hx hb d_MM_rule_8 rfl (lv_at hl 0 rfl) ?_
    refine g_get hx hb hts i_MM hown hK.1 hP (show A (20, 0) = some (h, .inr (5, [.ref (ad 0), .ref (ad 1), .int (nI ((kBu σ).length)), .ref (ad 3), .ref (ad 4), .ref (ad 5), .ref (ad 6), .ref (ad 7), .ref (ad 8), .ref (ad 9), .ref (ad 10), .int (nI ((kRs σ).length)), .ref (ad 12), .ref (ad 13), .ref (ad 14), .ref (ad 15), .ref (ad 16), .ref (ad 17), .ref (ad 18), .ref (ad 19), .ref (ad 20), .ref (ad 21), .int (nI ((kIs σ).length)), .int (nI (kMk σ) - 1)])) from hM.1) rfl 2 (by decide) (hts _ k_445) (fun _ h9 => h9) rfl d_MM_rule_9 ?_
    refine lv_iload_n hx hb d_MM_rule_12 rfl (lv_at hl 2 rfl) ?_
    refine lv_iconst (v := 4) hx hb d_MM_rule_13 (by decide) ?_
    refine lv_irem hx hb d_MM_rule_14 (by decide) ?_
    rw [rem4 (show mt < 2 ^ 31 by omega)]
    refine lv_icmp_eq (tgt := 20) hx hb d_MM_rule_15 (by decide) (fun c3 => ?_) (fun c3 => ?_)
    · skip
      replace c3 : (kBu σ).length = mt % 4 := (nI_eq (a := (kBu σ).length) (b := mt % 4) (by omega) (by omega)).mp c3
      refine lv_aload_n hx hb d_MM_rule_20 rfl (lv_at hl 0 rfl) ?_
      refine g_get hx hb hts i_MM hown hK.1 hP (show A (20, 0) = some (h, .inr (5, [.ref (ad 0), .ref (ad 1), .int (nI ((kBu σ).length)), .ref (ad 3), .ref (ad 4), .ref (ad 5), .ref (ad 6), .ref (ad 7), .ref (ad 8), .ref (ad 9), .ref (ad 10), .int (nI ((kRs σ).length)), .ref (ad 12), .ref (ad 13), .ref (ad 14), .ref (ad 15), .ref (ad 16), .ref (ad 17), .ref (ad 18), .ref (ad 19), .ref (ad 20), .ref (ad 21), .int (nI ((kIs σ).length)), .int (nI (kMk σ) - 1)])) from hM.1) rfl 11 (by decide) (hts _ k_454) (fun _ h9 => h9) rfl d_MM_rule_21 ?_
      refine lv_bipush (v := 24) hx hb d_MM_rule_24 (by decide) ?_
      refine lv_icmp_ne (tgt := 32) hx hb d_MM_rule_26 (by decide) (fun c4 => ?_) (fun c4 => ?_)
      · skip
        replace c4 : ¬ (kRs σ).length = 24 := fun q => c4 ((nI_eq (a := (kRs σ).length) (b := 24) (by omega) (by decide)).mpr q)
        refine lv_aload_n hx hb d_MM_rule_32 rfl (lv_at hl 0 rfl) ?_
        refine g_get hx hb hts i_MM hown hK.1 hP (show A (20, 0) = some (h, .inr (5, [.ref (ad 0), .ref (ad 1), .int (nI ((kBu σ).length)), .ref (ad 3), .ref (ad 4), .ref (ad 5), .ref (ad 6), .ref (ad 7), .ref (ad 8), .ref (ad 9), .ref (ad 10), .int (nI ((kRs σ).length)), .ref (ad 12), .ref (ad 13), .ref (ad 14), .ref (ad 15), .ref (ad 16), .ref (ad 17), .ref (ad 18), .ref (ad 19), .ref (ad 20), .ref (ad 21), .int (nI ((kIs σ).length)), .int (nI (kMk σ) - 1)])) from hM.1) rfl 3 (by decide) (hts _ k_446) (fun _ h9 => h9) rfl d_MM_rule_33 ?_
        refine lv_aload_n hx hb d_MM_rule_36 rfl (lv_at hl 0 rfl) ?_
        refine g_get hx hb hts i_MM hown hK.1 hP (show A (20, 0) = some (h, .inr (5, [.ref (ad 0), .ref (ad 1), .int (nI ((kBu σ).length)), .ref (ad 3), .ref (ad 4), .ref (ad 5), .ref (ad 6), .ref (ad 7), .ref (ad 8), .ref (ad 9), .ref (ad 10), .int (nI ((kRs σ).length)), .ref (ad 12), .ref (ad 13), .ref (ad 14), .ref (ad 15), .ref (ad 16), .ref (ad 17), .ref (ad 18), .ref (ad 19), .ref (ad 20), .ref (ad 21), .int (nI ((kIs σ).length)), .int (nI (kMk σ) - 1)])) from hM.1) rfl 11 (by decide) (hts _ k_454) (fun _ h9 => h9) rfl d_MM_rule_37 ?_
        refine lv_iload_n hx hb d_MM_rule_40 rfl (lv_at hl 1 rfl) ?_
        refine g_iast (k := (kRs σ).length) hx hb hK.1 hP hS 0 (show A (24, 0) = some (ad 3, .inl (cI, 24, .inl (F 3))) from hM.2.1 3 rfl) rfl (vp_in_nI (show (kRs σ).length < 24 by omega) (by omega)) (nI_clamp (show (kRs σ).length < 2 ^ 31 by omega)) d_MM_rule_41 (fun H locs hP hS => ?_)
        obtain ⟨A5, eA5⟩ : ∃ z, z = gU A (24, 0) (ad 3, .inl (cI, 24, .inl (upd (F 3) ((kRs σ).length) (nI mk)))) := ⟨_, rfl⟩
        replace hP : gP D classes b A5 H := by rw [eA5]; exact hP
        have hM6 : rMM cI cZ cL A5 h ad (va_up F 3 (upd (F 3) ((kRs σ).length) (nI mk))) G ((kBu σ).length) ((kRs σ).length) ((kIs σ).length) (kMk σ) := by rw [eA5]; exact hM.put 3 rfl _
        have glA5 : gL A A5 := by rw [eA5]; exact gL.rf.U (by decide)
        refine lv_aload_n hx hb d_MM_rule_42 rfl (lv_at hl 0 rfl) ?_
        refine g_get hx hb hts i_MM hown hK.1 hP (show A5 (20, 0) = some (h, .inr (5, [.ref (ad 0), .ref (ad 1), .int (nI ((kBu σ).length)), .ref (ad 3), .ref (ad 4), .ref (ad 5), .ref (ad 6), .ref (ad 7), .ref (ad 8), .ref (ad 9), .ref (ad 10), .int (nI ((kRs σ).length)), .ref (ad 12), .ref (ad 13), .ref (ad 14), .ref (ad 15), .ref (ad 16), .ref (ad 17), .ref (ad 18), .ref (ad 19), .ref (ad 20), .ref (ad 21), .int (nI ((kIs σ).length)), .int (nI (kMk σ) - 1)])) from hM6.1) rfl 4 (by decide) (hts _ k_447) (fun _ h9 => h9) rfl d_MM_rule_43 ?_
        refine lv_aload_n hx hb d_MM_rule_46 rfl (lv_at hl 0 rfl) ?_
        refine g_get hx hb hts i_MM hown hK.1 hP (show A5 (20, 0) = some (h, .inr (5, [.ref (ad 0), .ref (ad 1), .int (nI ((kBu σ).length)), .ref (ad 3), .ref (ad 4), .ref (ad 5), .ref (ad 6), .ref (ad 7), .ref (ad 8), .ref (ad 9), .ref (ad 10), .int (nI ((kRs σ).length)), .ref (ad 12), .ref (ad 13), .ref (ad 14), .ref (ad 15), .ref (ad 16), .ref (ad 17), .ref (ad 18), .ref (ad 19), .ref (ad 20), .ref (ad 21), .int (nI ((kIs σ).length)), .int (nI (kMk σ) - 1)])) from hM6.1) rfl 11 (by decide) (hts _ k_454) (fun _ h9 => h9) rfl d_MM_rule_47 ?_
        refine lv_iload_n hx hb d_MM_rule_50 rfl (lv_at hl 2 rfl) ?_
        refine g_iast (k := (kRs σ).length) hx hb hK.1 hP hS 0 (show A5 (25, 0) = some (ad 4, .inl (cI, 24, .inl (F 4))) from hM6.2.1 4 rfl) rfl (vp_in_nI (show (kRs σ).length < 24 by omega) (by omega)) (nI_clamp (show (kRs σ).length < 2 ^ 31 by omega)) d_MM_rule_51 (fun H locs hP hS => ?_)
        obtain ⟨A7, eA7⟩ : ∃ z, z = gU A5 (25, 0) (ad 4, .inl (cI, 24, .inl (upd (F 4) ((kRs σ).length) (nI mt)))) := ⟨_, rfl⟩
        replace hP : gP D classes b A7 H := by rw [eA7]; exact hP
        have hM8 : rMM cI cZ cL A7 h ad (va_up (va_up F 3 (upd (F 3) ((kRs σ).length) (nI mk))) 4 (upd (F 4) ((kRs σ).length) (nI mt))) G ((kBu σ).length) ((kRs σ).length) ((kIs σ).length) (kMk σ) := by rw [eA7]; exact hM6.put 4 rfl _
        have glA7 : gL A A7 := by rw [eA7]; exact glA5.U (by decide)
        refine lv_aload_n hx hb d_MM_rule_52 rfl (lv_at hl 0 rfl) ?_
        refine g_get hx hb hts i_MM hown hK.1 hP (show A7 (20, 0) = some (h, .inr (5, [.ref (ad 0), .ref (ad 1), .int (nI ((kBu σ).length)), .ref (ad 3), .ref (ad 4), .ref (ad 5), .ref (ad 6), .ref (ad 7), .ref (ad 8), .ref (ad 9), .ref (ad 10), .int (nI ((kRs σ).length)), .ref (ad 12), .ref (ad 13), .ref (ad 14), .ref (ad 15), .ref (ad 16), .ref (ad 17), .ref (ad 18), .ref (ad 19), .ref (ad 20), .ref (ad 21), .int (nI ((kIs σ).length)), .int (nI (kMk σ) - 1)])) from hM8.1) rfl 5 (by decide) (hts _ k_448) (fun _ h9 => h9) rfl d_MM_rule_53 ?_
        refine lv_aload_n hx hb d_MM_rule_56 rfl (lv_at hl 0 rfl) ?_
        refine g_get hx hb hts i_MM hown hK.1 hP (show A7 (20, 0) = some (h, .inr (5, [.ref (ad 0), .ref (ad 1), .int (nI ((kBu σ).length)), .ref (ad 3), .ref (ad 4), .ref (ad 5), .ref (ad 6), .ref (ad 7), .ref (ad 8), .ref (ad 9), .ref (ad 10), .int (nI ((kRs σ).length)), .ref (ad 12), .ref (ad 13), .ref (ad 14), .ref (ad 15), .ref (ad 16), .ref (ad 17), .ref (ad 18), .ref (ad 19), .ref (ad 20), .ref (ad 21), .int (nI ((kIs σ).length)), .int (nI (kMk σ) - 1)])) from hM8.1) rfl 11 (by decide) (hts _ k_454) (fun _ h9 => h9) rfl d_MM_rule_57 ?_
        refine lv_iconst (v := 1) hx hb d_MM_rule_60 (by decide) ?_
        refine g_zast (k := (kRs σ).length) hx hb hK.1 hP hS 1 (show A7 (26, 0) = some (ad 5, .inl (cZ, 24, .inl (F 5))) from hM8.2.1 5 rfl) rfl (vp_in_nI (show (kRs σ).length < 24 by omega) (by omega)) (nI_clamp (show (kRs σ).length < 2 ^ 31 by omega)) rfl d_MM_rule_61 (fun H locs hP hS => ?_)
        obtain ⟨A9, eA9⟩ : ∃ z, z = gU A7 (26, 0) (ad 5, .inl (cZ, 24, .inl (upd (F 5) ((kRs σ).length) (1)))) := ⟨_, rfl⟩
        replace hP : gP D classes b A9 H := by rw [eA9]; exact hP
        have hM10 : rMM cI cZ cL A9 h ad (va_up (va_up (va_up F 3 (upd (F 3) ((kRs σ).length) (nI mk))) 4 (upd (F 4) ((kRs σ).length) (nI mt))) 5 (upd (F 5) ((kRs σ).length) (1))) G ((kBu σ).length) ((kRs σ).length) ((kIs σ).length) (kMk σ) := by rw [eA9]; exact hM8.put 5 rfl _
        have glA9 : gL A A9 := by rw [eA9]; exact glA7.U (by decide)
        refine lv_iconst (v := 0) hx hb d_MM_rule_62 (by decide) ?_
        refine lv_istore_n (lv' := [(3, .int 0), (0, .ref h), (1, .int (nI mk)), (2, .int (nI mt))]) hx hb d_MM_rule_63 rfl hl (by decide) rfl (fun ls hl => ?_)
        rcases (by omega : (kBu σ).length = 0 ∨ (kBu σ).length = 1 ∨ (kBu σ).length = 2 ∨ (kBu σ).length = 3) with hn | hn | hn | hn
        · skip
          refine lv_iload_n hx hb d_MM_rule_64 rfl (lv_at hl 0 rfl) ?_
          refine lv_aload_n hx hb d_MM_rule_65 rfl (lv_at hl 1 rfl) ?_
          refine g_get hx hb hts i_MM hown hK.1 hP (show A9 (20, 0) = some (h, .inr (5, [.ref (ad 0), .ref (ad 1), .int (nI ((kBu σ).length)), .ref (ad 3), .ref (ad 4), .ref (ad 5), .ref (ad 6), .ref (ad 7), .ref (ad 8), .ref (ad 9), .ref (ad 10), .int (nI ((kRs σ).length)), .ref (ad 12), .ref (ad 13), .ref (ad 14), .ref (ad 15), .ref (ad 16), .ref (ad 17), .ref (ad 18), .ref (ad 19), .ref (ad 20), .ref (ad 21), .int (nI ((kIs σ).length)), .int (nI (kMk σ) - 1)])) from hM10.1) rfl 2 (by decide) (hts _ k_445) (fun _ h9 => h9) rfl d_MM_rule_66 ?_
          refine lv_icmp_ge (tgt := 116) hx hb d_MM_rule_69 (by decide) (fun _ => ?_) (fun h9 => absurd (nI_le (show (kBu σ).length ≤ 0 by omega) (by omega)) h9)
          refine lv_aload_n hx hb d_MM_rule_116 rfl (lv_at hl 1 rfl) ?_
          refine lv_iconst (v := 0) hx hb d_MM_rule_117 (by decide) ?_
          refine g_put (ty := .int) (v := .int 0) hx hb hts i_MM t_MM t_MM_ok n_MM hown hK.1 hP hS (show A9 (20, 0) = some (h, .inr (5, [.ref (ad 0), .ref (ad 1), .int (nI ((kBu σ).length)), .ref (ad 3), .ref (ad 4), .ref (ad 5), .ref (ad 6), .ref (ad 7), .ref (ad 8), .ref (ad 9), .ref (ad 10), .int (nI ((kRs σ).length)), .ref (ad 12), .ref (ad 13), .ref (ad 14), .ref (ad 15), .ref (ad 16), .ref (ad 17), .ref (ad 18), .ref (ad 19), .ref (ad 20), .ref (ad 21), .int (nI ((kIs σ).length)), .int (nI (kMk σ) - 1)])) from hM10.1) rfl 2 (by decide) (hts _ k_445) (fun _ h9 => h9) rfl (by decide +kernel) rfl rfl (Nat.le_of_ble_eq_true rfl) d_MM_rule_118 (fun H locs hP hS => ?_)
          obtain ⟨A12, eA12⟩ : ∃ z, z = gU A9 (20, 0) (h, .inr (5, [.ref (ad 0), .ref (ad 1), .int 0, .ref (ad 3), .ref (ad 4), .ref (ad 5), .ref (ad 6), .ref (ad 7), .ref (ad 8), .ref (ad 9), .ref (ad 10), .int (nI ((kRs σ).length)), .ref (ad 12), .ref (ad 13), .ref (ad 14), .ref (ad 15), .ref (ad 16), .ref (ad 17), .ref (ad 18), .ref (ad 19), .ref (ad 20), .ref (ad 21), .int (nI ((kIs σ).length)), .int (nI (kMk σ) - 1)])) := ⟨_, rfl⟩
          replace hP : gP D classes b A12 H := by rw [eA12]; exact hP
          have hM13 : rMM cI cZ cL A12 h ad (va_up (va_up (va_up F 3 (upd (F 3) ((kRs σ).length) (nI mk))) 4 (upd (F 4) ((kRs σ).length) (nI mt))) 5 (upd (F 5) ((kRs σ).length) (1))) G 0 ((kRs σ).length) ((kIs σ).length) ((kMk σ)) := by rw [eA12]; exact hM10.obj
          have glA12 : gL A A12 := by rw [eA12]; exact glA9.U (by decide)
          refine lv_aload_n hx hb d_MM_rule_121 rfl (lv_at hl 1 rfl) ?_
          refine lv_dup hx hb d_MM_rule_122 rfl ?_
          refine g_get hx hb hts i_MM hown hK.1 hP (show A12 (20, 0) = some (h, .inr (5, [.ref (ad 0), .ref (ad 1), .int (nI 0), .ref (ad 3), .ref (ad 4), .ref (ad 5), .ref (ad 6), .ref (ad 7), .ref (ad 8), .ref (ad 9), .ref (ad 10), .int (nI ((kRs σ).length)), .ref (ad 12), .ref (ad 13), .ref (ad 14), .ref (ad 15), .ref (ad 16), .ref (ad 17), .ref (ad 18), .ref (ad 19), .ref (ad 20), .ref (ad 21), .int (nI ((kIs σ).length)), .int (nI ((kMk σ)) - 1)])) from hM13.1) rfl 11 (by decide) (hts _ k_454) (fun _ h9 => h9) rfl d_MM_rule_123 ?_
          refine lv_iconst (v := 1) hx hb d_MM_rule_126 (by decide) ?_
          refine lv_iadd hx hb d_MM_rule_127 ?_
          rw [nI_1 _]
          refine g_put (ty := .int) (v := .int (nI ((kRs σ).length + 1))) hx hb hts i_MM t_MM t_MM_ok n_MM hown hK.1 hP hS (show A12 (20, 0) = some (h, .inr (5, [.ref (ad 0), .ref (ad 1), .int (nI 0), .ref (ad 3), .ref (ad 4), .ref (ad 5), .ref (ad 6), .ref (ad 7), .ref (ad 8), .ref (ad 9), .ref (ad 10), .int (nI ((kRs σ).length)), .ref (ad 12), .ref (ad 13), .ref (ad 14), .ref (ad 15), .ref (ad 16), .ref (ad 17), .ref (ad 18), .ref (ad 19), .ref (ad 20), .ref (ad 21), .int (nI ((kIs σ).length)), .int (nI ((kMk σ)) - 1)])) from hM13.1) rfl 11 (by decide) (hts _ k_454) (fun _ h9 => h9) rfl (by decide +kernel) rfl rfl (Nat.le_of_ble_eq_true rfl) d_MM_rule_128 (fun H locs hP hS => ?_)
          obtain ⟨A14, eA14⟩ : ∃ z, z = gU A12 (20, 0) (h, .inr (5, [.ref (ad 0), .ref (ad 1), .int (nI 0), .ref (ad 3), .ref (ad 4), .ref (ad 5), .ref (ad 6), .ref (ad 7), .ref (ad 8), .ref (ad 9), .ref (ad 10), .int (nI ((kRs σ).length + 1)), .ref (ad 12), .ref (ad 13), .ref (ad 14), .ref (ad 15), .ref (ad 16), .ref (ad 17), .ref (ad 18), .ref (ad 19), .ref (ad 20), .ref (ad 21), .int (nI ((kIs σ).length)), .int (nI ((kMk σ)) - 1)])) := ⟨_, rfl⟩
          replace hP : gP D classes b A14 H := by rw [eA14]; exact hP
          have hM15 : rMM cI cZ cL A14 h ad (va_up (va_up (va_up F 3 (upd (F 3) ((kRs σ).length) (nI mk))) 4 (upd (F 4) ((kRs σ).length) (nI mt))) 5 (upd (F 5) ((kRs σ).length) (1))) G 0 ((kRs σ).length + 1) ((kIs σ).length) (((kMk σ))) := by rw [eA14]; exact hM13.obj
          have glA14 : gL A A14 := by rw [eA14]; exact glA12.U (by decide)
          refine lv_aload_n hx hb d_MM_rule_131 rfl (lv_at hl 1 rfl) ?_
          refine g_get hx hb hts i_MM hown hK.1 hP (show A14 (20, 0) = some (h, .inr (5, [.ref (ad 0), .ref (ad 1), .int (nI 0), .ref (ad 3), .ref (ad 4), .ref (ad 5), .ref (ad 6), .ref (ad 7), .ref (ad 8), .ref (ad 9), .ref (ad 10), .int (nI ((kRs σ).length + 1)), .ref (ad 12), .ref (ad 13), .ref (ad 14), .ref (ad 15), .ref (ad 16), .ref (ad 17), .ref (ad 18), .ref (ad 19), .ref (ad 20), .ref (ad 21), .int (nI ((kIs σ).length)), .int (nI (((kMk σ))) - 1)])) from hM15.1) rfl 11 (by decide) (hts _ k_454) (fun _ h9 => h9) rfl d_MM_rule_132 ?_
          refine lv_iconst (v := 1) hx hb d_MM_rule_135 (by decide) ?_
          refine lv_isub hx hb d_MM_rule_136 ?_
          rw [nI_pred _]
          obtain ⟨F9, eF9⟩ : ∃ z : Nat → Nat → Int32, z = (va_up (va_up (va_up F 3 (upd (F 3) ((kRs σ).length) (nI mk))) 4 (upd (F 4) ((kRs σ).length) (nI mt))) 5 (upd (F 5) ((kRs σ).length) (1))) := ⟨_, rfl⟩
          rw [← eF9] at hM15
          have e9_3 : F9 3 = (upd (F 3) ((kRs σ).length) (nI mk)) := by rw [eF9]; rfl
          have e9_4 : F9 4 = (upd (F 4) ((kRs σ).length) (nI mt)) := by rw [eF9]; rfl
          have e9_5 : F9 5 = (upd (F 5) ((kRs σ).length) (1)) := by rw [eF9]; rfl
          have e9_6 : F9 6 = F 6 := by rw [eF9]; rfl
          have e9_7 : F9 7 = F 7 := by rw [eF9]; rfl
          have e9_8 : F9 8 = F 8 := by rw [eF9]; rfl
          have e9_9 : F9 9 = F 9 := by rw [eF9]; rfl
          have e9_10 : F9 10 = F 10 := by rw [eF9]; rfl
          have e9_12 : F9 12 = F 12 := by rw [eF9]; rfl
          have e9_13 : F9 13 = F 13 := by rw [eF9]; rfl
          have e9_14 : F9 14 = F 14 := by rw [eF9]; rfl
          have e9_15 : F9 15 = F 15 := by rw [eF9]; rfl
          have e9_16 : F9 16 = F 16 := by rw [eF9]; rfl
          have e9_17 : F9 17 = F 17 := by rw [eF9]; rfl
          have e9_18 : F9 18 = F 18 := by rw [eF9]; rfl
          have e9_20 : F9 20 = F 20 := by rw [eF9]; rfl
          have e9_21 : F9 21 = F 21 := by rw [eF9]; rfl
          have hru9 : mRu F9 (kRs σ).length (mk, mt, kBu σ, [], 0, true) := ⟨by rw [e9_3]; exact pk_us, by rw [e9_4]; exact pk_us, by rw [e9_5]; exact pk_us, by rw [e9_10]; exact hrz _ (Nat.le_refl _) (by omega), fun j hj => absurd (show j < (kBu σ).length from hj) (by omega), fun j hj => absurd hj (Nat.not_lt_zero j)⟩
          have hrep := hR.ar (F' := F9) (r := (mk, mt, kBu σ, [], 0, true)) (by omega) (fun j hj => by have h9 := (w3 j hj).2.2.2.1; omega) (fun i hi => ⟨by rw [e9_3, pk_un (by omega)], by rw [e9_4, pk_un (by omega)], by rw [e9_5, pk_un (by omega)]⟩) (fun x9 hx9 => ⟨by rw [e9_6], by rw [e9_7]⟩) ⟨e9_8, e9_9, e9_10⟩ ⟨e9_12, e9_13, e9_14, e9_15, e9_16, e9_17, e9_18, e9_20, e9_21⟩ hru9
          have e9 : sRule σ (nI mk) (nI mt) = ((kRs σ ++ [(mk, mt, kBu σ, [], 0, true)], kIs σ, kSt σ, [], kMk σ), nI ((kRs σ).length)) := by unfold sRule; rw [if_pos (by simp_all), hc1, hc2, if_pos (by simp_all), if_neg (by omega)]
          refine W.widen (k := 0) (n := 0) (by decide) (by decide) ?_
          exact W.iret hx hb hr (fun t ht _ => ⟨⟨_, A14, rfl, ⟨by rw [e9], by rw [e9]; exact ⟨ad, F9, G, (by rw [lenS]; exact hM15), hrep⟩, glA14⟩, show gP D classes b A14 t.heap by rw [ht]; exact hP⟩, hS.F ht⟩) hS.2.2 d_MM_rule_137
        · skip
          refine lv_iload_n hx hb d_MM_rule_64 rfl (lv_at hl 0 rfl) ?_
          refine lv_aload_n hx hb d_MM_rule_65 rfl (lv_at hl 1 rfl) ?_
          refine g_get hx hb hts i_MM hown hK.1 hP (show A9 (20, 0) = some (h, .inr (5, [.ref (ad 0), .ref (ad 1), .int (nI ((kBu σ).length)), .ref (ad 3), .ref (ad 4), .ref (ad 5), .ref (ad 6), .ref (ad 7), .ref (ad 8), .ref (ad 9), .ref (ad 10), .int (nI ((kRs σ).length)), .ref (ad 12), .ref (ad 13), .ref (ad 14), .ref (ad 15), .ref (ad 16), .ref (ad 17), .ref (ad 18), .ref (ad 19), .ref (ad 20), .ref (ad 21), .int (nI ((kIs σ).length)), .int (nI (kMk σ) - 1)])) from hM10.1) rfl 2 (by decide) (hts _ k_445) (fun _ h9 => h9) rfl d_MM_rule_66 ?_
          refine lv_icmp_ge (tgt := 116) hx hb d_MM_rule_69 (by decide) (fun h9 => absurd h9 (nI_ge (show 0 < (kBu σ).length by omega) (by omega))) (fun _ => ?_)
          refine lv_aload_n hx hb d_MM_rule_72 rfl (lv_at hl 1 rfl) ?_
          refine g_get hx hb hts i_MM hown hK.1 hP (show A9 (20, 0) = some (h, .inr (5, [.ref (ad 0), .ref (ad 1), .int (nI ((kBu σ).length)), .ref (ad 3), .ref (ad 4), .ref (ad 5), .ref (ad 6), .ref (ad 7), .ref (ad 8), .ref (ad 9), .ref (ad 10), .int (nI ((kRs σ).length)), .ref (ad 12), .ref (ad 13), .ref (ad 14), .ref (ad 15), .ref (ad 16), .ref (ad 17), .ref (ad 18), .ref (ad 19), .ref (ad 20), .ref (ad 21), .int (nI ((kIs σ).length)), .int (nI (kMk σ) - 1)])) from hM10.1) rfl 6 (by decide) (hts _ k_449) (fun _ h9 => h9) rfl d_MM_rule_73 ?_
          refine lv_iconst (v := 3) hx hb d_MM_rule_76 (by decide) ?_
          refine lv_aload_n hx hb d_MM_rule_77 rfl (lv_at hl 1 rfl) ?_
          refine g_get hx hb hts i_MM hown hK.1 hP (show A9 (20, 0) = some (h, .inr (5, [.ref (ad 0), .ref (ad 1), .int (nI ((kBu σ).length)), .ref (ad 3), .ref (ad 4), .ref (ad 5), .ref (ad 6), .ref (ad 7), .ref (ad 8), .ref (ad 9), .ref (ad 10), .int (nI ((kRs σ).length)), .ref (ad 12), .ref (ad 13), .ref (ad 14), .ref (ad 15), .ref (ad 16), .ref (ad 17), .ref (ad 18), .ref (ad 19), .ref (ad 20), .ref (ad 21), .int (nI ((kIs σ).length)), .int (nI (kMk σ) - 1)])) from hM10.1) rfl 11 (by decide) (hts _ k_454) (fun _ h9 => h9) rfl d_MM_rule_78 ?_
          refine lv_imul hx hb d_MM_rule_81 ?_
          rw [mul3 _]
          refine lv_iload_n hx hb d_MM_rule_82 rfl (lv_at hl 0 rfl) ?_
          refine lv_iadd hx hb d_MM_rule_83 ?_
          rw [show nI (3 * ((kRs σ).length)) + 0 = nI (3 * ((kRs σ).length) + 0) from nI_add _ 0]
          refine lv_aload_n hx hb d_MM_rule_84 rfl (lv_at hl 1 rfl) ?_
          refine g_get hx hb hts i_MM hown hK.1 hP (show A9 (20, 0) = some (h, .inr (5, [.ref (ad 0), .ref (ad 1), .int (nI ((kBu σ).length)), .ref (ad 3), .ref (ad 4), .ref (ad 5), .ref (ad 6), .ref (ad 7), .ref (ad 8), .ref (ad 9), .ref (ad 10), .int (nI ((kRs σ).length)), .ref (ad 12), .ref (ad 13), .ref (ad 14), .ref (ad 15), .ref (ad 16), .ref (ad 17), .ref (ad 18), .ref (ad 19), .ref (ad 20), .ref (ad 21), .int (nI ((kIs σ).length)), .int (nI (kMk σ) - 1)])) from hM10.1) rfl 0 (by decide) (hts _ k_443) (fun _ h9 => h9) rfl d_MM_rule_85 ?_
          refine lv_iload_n hx hb d_MM_rule_88 rfl (lv_at hl 0 rfl) ?_
          refine g_iald (v := ((kBu σ).getD 0 (0, 0)).1) hx hb hK.1 hP 0 (show A9 (21, 0) = some (ad 0, .inl (cI, 3, .inl (F 0))) from hM10.2.1 0 rfl) rfl (by unfold vp_in; decide) (by rw [show (0 : Int32).toNatClampNeg = 0 by decide]; exact (hb0 0 (by omega)).1) d_MM_rule_89 ?_
          refine g_iast (k := 3 * ((kRs σ).length) + 0) hx hb hK.1 hP hS 0 (show A9 (27, 0) = some (ad 6, .inl (cI, 72, .inl (F 6))) from hM10.2.1 6 rfl) rfl (vp_in_nI (show 3 * ((kRs σ).length) + 0 < 72 by omega) (by omega)) (nI_clamp (show 3 * ((kRs σ).length) + 0 < 2 ^ 31 by omega)) d_MM_rule_90 (fun H locs hP hS => ?_)
          obtain ⟨A17, eA17⟩ : ∃ z, z = gU A9 (27, 0) (ad 6, .inl (cI, 72, .inl (upd (F 6) (3 * ((kRs σ).length) + 0) (((kBu σ).getD 0 (0, 0)).1)))) := ⟨_, rfl⟩
          replace hP : gP D classes b A17 H := by rw [eA17]; exact hP
          have hM18 : rMM cI cZ cL A17 h ad (va_up (va_up (va_up (va_up F 3 (upd (F 3) ((kRs σ).length) (nI mk))) 4 (upd (F 4) ((kRs σ).length) (nI mt))) 5 (upd (F 5) ((kRs σ).length) (1))) 6 (upd (F 6) (3 * ((kRs σ).length) + 0) (((kBu σ).getD 0 (0, 0)).1))) G ((kBu σ).length) ((kRs σ).length) ((kIs σ).length) (kMk σ) := by rw [eA17]; exact hM10.put 6 rfl _
          have glA17 : gL A A17 := by rw [eA17]; exact glA9.U (by decide)
          refine lv_aload_n hx hb d_MM_rule_91 rfl (lv_at hl 1 rfl) ?_
          refine g_get hx hb hts i_MM hown hK.1 hP (show A17 (20, 0) = some (h, .inr (5, [.ref (ad 0), .ref (ad 1), .int (nI ((kBu σ).length)), .ref (ad 3), .ref (ad 4), .ref (ad 5), .ref (ad 6), .ref (ad 7), .ref (ad 8), .ref (ad 9), .ref (ad 10), .int (nI ((kRs σ).length)), .ref (ad 12), .ref (ad 13), .ref (ad 14), .ref (ad 15), .ref (ad 16), .ref (ad 17), .ref (ad 18), .ref (ad 19), .ref (ad 20), .ref (ad 21), .int (nI ((kIs σ).length)), .int (nI (kMk σ) - 1)])) from hM18.1) rfl 7 (by decide) (hts _ k_450) (fun _ h9 => h9) rfl d_MM_rule_92 ?_
          refine lv_iconst (v := 3) hx hb d_MM_rule_95 (by decide) ?_
          refine lv_aload_n hx hb d_MM_rule_96 rfl (lv_at hl 1 rfl) ?_
          refine g_get hx hb hts i_MM hown hK.1 hP (show A17 (20, 0) = some (h, .inr (5, [.ref (ad 0), .ref (ad 1), .int (nI ((kBu σ).length)), .ref (ad 3), .ref (ad 4), .ref (ad 5), .ref (ad 6), .ref (ad 7), .ref (ad 8), .ref (ad 9), .ref (ad 10), .int (nI ((kRs σ).length)), .ref (ad 12), .ref (ad 13), .ref (ad 14), .ref (ad 15), .ref (ad 16), .ref (ad 17), .ref (ad 18), .ref (ad 19), .ref (ad 20), .ref (ad 21), .int (nI ((kIs σ).length)), .int (nI (kMk σ) - 1)])) from hM18.1) rfl 11 (by decide) (hts _ k_454) (fun _ h9 => h9) rfl d_MM_rule_97 ?_
          refine lv_imul hx hb d_MM_rule_100 ?_
          rw [mul3 _]
          refine lv_iload_n hx hb d_MM_rule_101 rfl (lv_at hl 0 rfl) ?_
          refine lv_iadd hx hb d_MM_rule_102 ?_
          rw [show nI (3 * ((kRs σ).length)) + 0 = nI (3 * ((kRs σ).length) + 0) from nI_add _ 0]
          refine lv_aload_n hx hb d_MM_rule_103 rfl (lv_at hl 1 rfl) ?_
          refine g_get hx hb hts i_MM hown hK.1 hP (show A17 (20, 0) = some (h, .inr (5, [.ref (ad 0), .ref (ad 1), .int (nI ((kBu σ).length)), .ref (ad 3), .ref (ad 4), .ref (ad 5), .ref (ad 6), .ref (ad 7), .ref (ad 8), .ref (ad 9), .ref (ad 10), .int (nI ((kRs σ).length)), .ref (ad 12), .ref (ad 13), .ref (ad 14), .ref (ad 15), .ref (ad 16), .ref (ad 17), .ref (ad 18), .ref (ad 19), .ref (ad 20), .ref (ad 21), .int (nI ((kIs σ).length)), .int (nI (kMk σ) - 1)])) from hM18.1) rfl 1 (by decide) (hts _ k_444) (fun _ h9 => h9) rfl d_MM_rule_104 ?_
          refine lv_iload_n hx hb d_MM_rule_107 rfl (lv_at hl 0 rfl) ?_
          refine g_iald (v := ((kBu σ).getD 0 (0, 0)).2) hx hb hK.1 hP 0 (show A17 (22, 0) = some (ad 1, .inl (cI, 3, .inl (F 1))) from hM18.2.1 1 rfl) rfl (by unfold vp_in; decide) (by rw [show (0 : Int32).toNatClampNeg = 0 by decide]; exact (hb0 0 (by omega)).2) d_MM_rule_108 ?_
          refine g_iast (k := 3 * ((kRs σ).length) + 0) hx hb hK.1 hP hS 0 (show A17 (28, 0) = some (ad 7, .inl (cI, 72, .inl (F 7))) from hM18.2.1 7 rfl) rfl (vp_in_nI (show 3 * ((kRs σ).length) + 0 < 72 by omega) (by omega)) (nI_clamp (show 3 * ((kRs σ).length) + 0 < 2 ^ 31 by omega)) d_MM_rule_109 (fun H locs hP hS => ?_)
          obtain ⟨A19, eA19⟩ : ∃ z, z = gU A17 (28, 0) (ad 7, .inl (cI, 72, .inl (upd (F 7) (3 * ((kRs σ).length) + 0) (((kBu σ).getD 0 (0, 0)).2)))) := ⟨_, rfl⟩
          replace hP : gP D classes b A19 H := by rw [eA19]; exact hP
          have hM20 : rMM cI cZ cL A19 h ad (va_up (va_up (va_up (va_up (va_up F 3 (upd (F 3) ((kRs σ).length) (nI mk))) 4 (upd (F 4) ((kRs σ).length) (nI mt))) 5 (upd (F 5) ((kRs σ).length) (1))) 6 (upd (F 6) (3 * ((kRs σ).length) + 0) (((kBu σ).getD 0 (0, 0)).1))) 7 (upd (F 7) (3 * ((kRs σ).length) + 0) (((kBu σ).getD 0 (0, 0)).2))) G ((kBu σ).length) ((kRs σ).length) ((kIs σ).length) (kMk σ) := by rw [eA19]; exact hM18.put 7 rfl _
          have glA19 : gL A A19 := by rw [eA19]; exact glA17.U (by decide)
          refine lv_iinc (v := 1) (lv' := [(3, .int 1), (0, .ref h), (1, .int (nI mk)), (2, .int (nI mt))]) hx hb d_MM_rule_110 hl (k := 0) rfl (by decide) (by decide) rfl (fun ls hl => ?_)
          refine lv_goto (tgt := 64) hx hb d_MM_rule_113 (by decide) ?_
          refine lv_iload_n hx hb d_MM_rule_64 rfl (lv_at hl 0 rfl) ?_
          refine lv_aload_n hx hb d_MM_rule_65 rfl (lv_at hl 1 rfl) ?_
          refine g_get hx hb hts i_MM hown hK.1 hP (show A19 (20, 0) = some (h, .inr (5, [.ref (ad 0), .ref (ad 1), .int (nI ((kBu σ).length)), .ref (ad 3), .ref (ad 4), .ref (ad 5), .ref (ad 6), .ref (ad 7), .ref (ad 8), .ref (ad 9), .ref (ad 10), .int (nI ((kRs σ).length)), .ref (ad 12), .ref (ad 13), .ref (ad 14), .ref (ad 15), .ref (ad 16), .ref (ad 17), .ref (ad 18), .ref (ad 19), .ref (ad 20), .ref (ad 21), .int (nI ((kIs σ).length)), .int (nI (kMk σ) - 1)])) from hM20.1) rfl 2 (by decide) (hts _ k_445) (fun _ h9 => h9) rfl d_MM_rule_66 ?_
          refine lv_icmp_ge (tgt := 116) hx hb d_MM_rule_69 (by decide) (fun _ => ?_) (fun h9 => absurd (nI_le (show (kBu σ).length ≤ 1 by omega) (by omega)) h9)
          refine lv_aload_n hx hb d_MM_rule_116 rfl (lv_at hl 1 rfl) ?_
          refine lv_iconst (v := 0) hx hb d_MM_rule_117 (by decide) ?_
          refine g_put (ty := .int) (v := .int 0) hx hb hts i_MM t_MM t_MM_ok n_MM hown hK.1 hP hS (show A19 (20, 0) = some (h, .inr (5, [.ref (ad 0), .ref (ad 1), .int (nI ((kBu σ).length)), .ref (ad 3), .ref (ad 4), .ref (ad 5), .ref (ad 6), .ref (ad 7), .ref (ad 8), .ref (ad 9), .ref (ad 10), .int (nI ((kRs σ).length)), .ref (ad 12), .ref (ad 13), .ref (ad 14), .ref (ad 15), .ref (ad 16), .ref (ad 17), .ref (ad 18), .ref (ad 19), .ref (ad 20), .ref (ad 21), .int (nI ((kIs σ).length)), .int (nI (kMk σ) - 1)])) from hM20.1) rfl 2 (by decide) (hts _ k_445) (fun _ h9 => h9) rfl (by decide +kernel) rfl rfl (Nat.le_of_ble_eq_true rfl) d_MM_rule_118 (fun H locs hP hS => ?_)
          obtain ⟨A22, eA22⟩ : ∃ z, z = gU A19 (20, 0) (h, .inr (5, [.ref (ad 0), .ref (ad 1), .int 0, .ref (ad 3), .ref (ad 4), .ref (ad 5), .ref (ad 6), .ref (ad 7), .ref (ad 8), .ref (ad 9), .ref (ad 10), .int (nI ((kRs σ).length)), .ref (ad 12), .ref (ad 13), .ref (ad 14), .ref (ad 15), .ref (ad 16), .ref (ad 17), .ref (ad 18), .ref (ad 19), .ref (ad 20), .ref (ad 21), .int (nI ((kIs σ).length)), .int (nI (kMk σ) - 1)])) := ⟨_, rfl⟩
          replace hP : gP D classes b A22 H := by rw [eA22]; exact hP
          have hM23 : rMM cI cZ cL A22 h ad (va_up (va_up (va_up (va_up (va_up F 3 (upd (F 3) ((kRs σ).length) (nI mk))) 4 (upd (F 4) ((kRs σ).length) (nI mt))) 5 (upd (F 5) ((kRs σ).length) (1))) 6 (upd (F 6) (3 * ((kRs σ).length) + 0) (((kBu σ).getD 0 (0, 0)).1))) 7 (upd (F 7) (3 * ((kRs σ).length) + 0) (((kBu σ).getD 0 (0, 0)).2))) G 0 ((kRs σ).length) ((kIs σ).length) ((kMk σ)) := by rw [eA22]; exact hM20.obj
          have glA22 : gL A A22 := by rw [eA22]; exact glA19.U (by decide)
          refine lv_aload_n hx hb d_MM_rule_121 rfl (lv_at hl 1 rfl) ?_
          refine lv_dup hx hb d_MM_rule_122 rfl ?_
          refine g_get hx hb hts i_MM hown hK.1 hP (show A22 (20, 0) = some (h, .inr (5, [.ref (ad 0), .ref (ad 1), .int (nI 0), .ref (ad 3), .ref (ad 4), .ref (ad 5), .ref (ad 6), .ref (ad 7), .ref (ad 8), .ref (ad 9), .ref (ad 10), .int (nI ((kRs σ).length)), .ref (ad 12), .ref (ad 13), .ref (ad 14), .ref (ad 15), .ref (ad 16), .ref (ad 17), .ref (ad 18), .ref (ad 19), .ref (ad 20), .ref (ad 21), .int (nI ((kIs σ).length)), .int (nI ((kMk σ)) - 1)])) from hM23.1) rfl 11 (by decide) (hts _ k_454) (fun _ h9 => h9) rfl d_MM_rule_123 ?_
          refine lv_iconst (v := 1) hx hb d_MM_rule_126 (by decide) ?_
          refine lv_iadd hx hb d_MM_rule_127 ?_
          rw [nI_1 _]
          refine g_put (ty := .int) (v := .int (nI ((kRs σ).length + 1))) hx hb hts i_MM t_MM t_MM_ok n_MM hown hK.1 hP hS (show A22 (20, 0) = some (h, .inr (5, [.ref (ad 0), .ref (ad 1), .int (nI 0), .ref (ad 3), .ref (ad 4), .ref (ad 5), .ref (ad 6), .ref (ad 7), .ref (ad 8), .ref (ad 9), .ref (ad 10), .int (nI ((kRs σ).length)), .ref (ad 12), .ref (ad 13), .ref (ad 14), .ref (ad 15), .ref (ad 16), .ref (ad 17), .ref (ad 18), .ref (ad 19), .ref (ad 20), .ref (ad 21), .int (nI ((kIs σ).length)), .int (nI ((kMk σ)) - 1)])) from hM23.1) rfl 11 (by decide) (hts _ k_454) (fun _ h9 => h9) rfl (by decide +kernel) rfl rfl (Nat.le_of_ble_eq_true rfl) d_MM_rule_128 (fun H locs hP hS => ?_)
          obtain ⟨A24, eA24⟩ : ∃ z, z = gU A22 (20, 0) (h, .inr (5, [.ref (ad 0), .ref (ad 1), .int (nI 0), .ref (ad 3), .ref (ad 4), .ref (ad 5), .ref (ad 6), .ref (ad 7), .ref (ad 8), .ref (ad 9), .ref (ad 10), .int (nI ((kRs σ).length + 1)), .ref (ad 12), .ref (ad 13), .ref (ad 14), .ref (ad 15), .ref (ad 16), .ref (ad 17), .ref (ad 18), .ref (ad 19), .ref (ad 20), .ref (ad 21), .int (nI ((kIs σ).length)), .int (nI ((kMk σ)) - 1)])) := ⟨_, rfl⟩
          replace hP : gP D classes b A24 H := by rw [eA24]; exact hP
          have hM25 : rMM cI cZ cL A24 h ad (va_up (va_up (va_up (va_up (va_up F 3 (upd (F 3) ((kRs σ).length) (nI mk))) 4 (upd (F 4) ((kRs σ).length) (nI mt))) 5 (upd (F 5) ((kRs σ).length) (1))) 6 (upd (F 6) (3 * ((kRs σ).length) + 0) (((kBu σ).getD 0 (0, 0)).1))) 7 (upd (F 7) (3 * ((kRs σ).length) + 0) (((kBu σ).getD 0 (0, 0)).2))) G 0 ((kRs σ).length + 1) ((kIs σ).length) (((kMk σ))) := by rw [eA24]; exact hM23.obj
          have glA24 : gL A A24 := by rw [eA24]; exact glA22.U (by decide)
          refine lv_aload_n hx hb d_MM_rule_131 rfl (lv_at hl 1 rfl) ?_
          refine g_get hx hb hts i_MM hown hK.1 hP (show A24 (20, 0) = some (h, .inr (5, [.ref (ad 0), .ref (ad 1), .int (nI 0), .ref (ad 3), .ref (ad 4), .ref (ad 5), .ref (ad 6), .ref (ad 7), .ref (ad 8), .ref (ad 9), .ref (ad 10), .int (nI ((kRs σ).length + 1)), .ref (ad 12), .ref (ad 13), .ref (ad 14), .ref (ad 15), .ref (ad 16), .ref (ad 17), .ref (ad 18), .ref (ad 19), .ref (ad 20), .ref (ad 21), .int (nI ((kIs σ).length)), .int (nI (((kMk σ))) - 1)])) from hM25.1) rfl 11 (by decide) (hts _ k_454) (fun _ h9 => h9) rfl d_MM_rule_132 ?_
          refine lv_iconst (v := 1) hx hb d_MM_rule_135 (by decide) ?_
          refine lv_isub hx hb d_MM_rule_136 ?_
          rw [nI_pred _]
          obtain ⟨F9, eF9⟩ : ∃ z : Nat → Nat → Int32, z = (va_up (va_up (va_up (va_up (va_up F 3 (upd (F 3) ((kRs σ).length) (nI mk))) 4 (upd (F 4) ((kRs σ).length) (nI mt))) 5 (upd (F 5) ((kRs σ).length) (1))) 6 (upd (F 6) (3 * ((kRs σ).length) + 0) (((kBu σ).getD 0 (0, 0)).1))) 7 (upd (F 7) (3 * ((kRs σ).length) + 0) (((kBu σ).getD 0 (0, 0)).2))) := ⟨_, rfl⟩
          rw [← eF9] at hM25
          have e9_3 : F9 3 = (upd (F 3) ((kRs σ).length) (nI mk)) := by rw [eF9]; rfl
          have e9_4 : F9 4 = (upd (F 4) ((kRs σ).length) (nI mt)) := by rw [eF9]; rfl
          have e9_5 : F9 5 = (upd (F 5) ((kRs σ).length) (1)) := by rw [eF9]; rfl
          have e9_6 : F9 6 = (upd (F 6) (3 * ((kRs σ).length) + 0) (((kBu σ).getD 0 (0, 0)).1)) := by rw [eF9]; rfl
          have e9_7 : F9 7 = (upd (F 7) (3 * ((kRs σ).length) + 0) (((kBu σ).getD 0 (0, 0)).2)) := by rw [eF9]; rfl
          have e9_8 : F9 8 = F 8 := by rw [eF9]; rfl
          have e9_9 : F9 9 = F 9 := by rw [eF9]; rfl
          have e9_10 : F9 10 = F 10 := by rw [eF9]; rfl
          have e9_12 : F9 12 = F 12 := by rw [eF9]; rfl
          have e9_13 : F9 13 = F 13 := by rw [eF9]; rfl
          have e9_14 : F9 14 = F 14 := by rw [eF9]; rfl
          have e9_15 : F9 15 = F 15 := by rw [eF9]; rfl
          have e9_16 : F9 16 = F 16 := by rw [eF9]; rfl
          have e9_17 : F9 17 = F 17 := by rw [eF9]; rfl
          have e9_18 : F9 18 = F 18 := by rw [eF9]; rfl
          have e9_20 : F9 20 = F 20 := by rw [eF9]; rfl
          have e9_21 : F9 21 = F 21 := by rw [eF9]; rfl
          have hru9 : mRu F9 (kRs σ).length (mk, mt, kBu σ, [], 0, true) := ⟨by rw [e9_3]; exact pk_us, by rw [e9_4]; exact pk_us, by rw [e9_5]; exact pk_us, by rw [e9_10]; exact hrz _ (Nat.le_refl _) (by omega), fun j hj => by
            replace hj : j < (kBu σ).length := hj
            rcases (by omega : j = 0) with rfl <;> simp [e9_6, e9_7, upd], fun j hj => absurd hj (Nat.not_lt_zero j)⟩
          have hrep := hR.ar (F' := F9) (r := (mk, mt, kBu σ, [], 0, true)) (by omega) (fun j hj => by have h9 := (w3 j hj).2.2.2.1; omega) (fun i hi => ⟨by rw [e9_3, pk_un (by omega)], by rw [e9_4, pk_un (by omega)], by rw [e9_5, pk_un (by omega)]⟩) (fun x9 hx9 => ⟨by rw [e9_6, pk_un (by omega)], by rw [e9_7, pk_un (by omega)]⟩) ⟨e9_8, e9_9, e9_10⟩ ⟨e9_12, e9_13, e9_14, e9_15, e9_16, e9_17, e9_18, e9_20, e9_21⟩ hru9
          have e9 : sRule σ (nI mk) (nI mt) = ((kRs σ ++ [(mk, mt, kBu σ, [], 0, true)], kIs σ, kSt σ, [], kMk σ), nI ((kRs σ).length)) := by unfold sRule; rw [if_pos (by simp_all), hc1, hc2, if_pos (by simp_all), if_neg (by omega)]
          refine W.widen (k := 0) (n := 0) (by decide) (by decide) ?_
          exact W.iret hx hb hr (fun t ht _ => ⟨⟨_, A24, rfl, ⟨by rw [e9], by rw [e9]; exact ⟨ad, F9, G, (by rw [lenS]; exact hM25), hrep⟩, glA24⟩, show gP D classes b A24 t.heap by rw [ht]; exact hP⟩, hS.F ht⟩) hS.2.2 d_MM_rule_137
        · skip
          refine lv_iload_n hx hb d_MM_rule_64 rfl (lv_at hl 0 rfl) ?_
          refine lv_aload_n hx hb d_MM_rule_65 rfl (lv_at hl 1 rfl) ?_
          refine g_get hx hb hts i_MM hown hK.1 hP (show A9 (20, 0) = some (h, .inr (5, [.ref (ad 0), .ref (ad 1), .int (nI ((kBu σ).length)), .ref (ad 3), .ref (ad 4), .ref (ad 5), .ref (ad 6), .ref (ad 7), .ref (ad 8), .ref (ad 9), .ref (ad 10), .int (nI ((kRs σ).length)), .ref (ad 12), .ref (ad 13), .ref (ad 14), .ref (ad 15), .ref (ad 16), .ref (ad 17), .ref (ad 18), .ref (ad 19), .ref (ad 20), .ref (ad 21), .int (nI ((kIs σ).length)), .int (nI (kMk σ) - 1)])) from hM10.1) rfl 2 (by decide) (hts _ k_445) (fun _ h9 => h9) rfl d_MM_rule_66 ?_
          refine lv_icmp_ge (tgt := 116) hx hb d_MM_rule_69 (by decide) (fun h9 => absurd h9 (nI_ge (show 0 < (kBu σ).length by omega) (by omega))) (fun _ => ?_)
          refine lv_aload_n hx hb d_MM_rule_72 rfl (lv_at hl 1 rfl) ?_
          refine g_get hx hb hts i_MM hown hK.1 hP (show A9 (20, 0) = some (h, .inr (5, [.ref (ad 0), .ref (ad 1), .int (nI ((kBu σ).length)), .ref (ad 3), .ref (ad 4), .ref (ad 5), .ref (ad 6), .ref (ad 7), .ref (ad 8), .ref (ad 9), .ref (ad 10), .int (nI ((kRs σ).length)), .ref (ad 12), .ref (ad 13), .ref (ad 14), .ref (ad 15), .ref (ad 16), .ref (ad 17), .ref (ad 18), .ref (ad 19), .ref (ad 20), .ref (ad 21), .int (nI ((kIs σ).length)), .int (nI (kMk σ) - 1)])) from hM10.1) rfl 6 (by decide) (hts _ k_449) (fun _ h9 => h9) rfl d_MM_rule_73 ?_
          refine lv_iconst (v := 3) hx hb d_MM_rule_76 (by decide) ?_
          refine lv_aload_n hx hb d_MM_rule_77 rfl (lv_at hl 1 rfl) ?_
          refine g_get hx hb hts i_MM hown hK.1 hP (show A9 (20, 0) = some (h, .inr (5, [.ref (ad 0), .ref (ad 1), .int (nI ((kBu σ).length)), .ref (ad 3), .ref (ad 4), .ref (ad 5), .ref (ad 6), .ref (ad 7), .ref (ad 8), .ref (ad 9), .ref (ad 10), .int (nI ((kRs σ).length)), .ref (ad 12), .ref (ad 13), .ref (ad 14), .ref (ad 15), .ref (ad 16), .ref (ad 17), .ref (ad 18), .ref (ad 19), .ref (ad 20), .ref (ad 21), .int (nI ((kIs σ).length)), .int (nI (kMk σ) - 1)])) from hM10.1) rfl 11 (by decide) (hts _ k_454) (fun _ h9 => h9) rfl d_MM_rule_78 ?_
          refine lv_imul hx hb d_MM_rule_81 ?_
          rw [mul3 _]
          refine lv_iload_n hx hb d_MM_rule_82 rfl (lv_at hl 0 rfl) ?_
          refine lv_iadd hx hb d_MM_rule_83 ?_
          rw [show nI (3 * ((kRs σ).length)) + 0 = nI (3 * ((kRs σ).length) + 0) from nI_add _ 0]
          refine lv_aload_n hx hb d_MM_rule_84 rfl (lv_at hl 1 rfl) ?_
          refine g_get hx hb hts i_MM hown hK.1 hP (show A9 (20, 0) = some (h, .inr (5, [.ref (ad 0), .ref (ad 1), .int (nI ((kBu σ).length)), .ref (ad 3), .ref (ad 4), .ref (ad 5), .ref (ad 6), .ref (ad 7), .ref (ad 8), .ref (ad 9), .ref (ad 10), .int (nI ((kRs σ).length)), .ref (ad 12), .ref (ad 13), .ref (ad 14), .ref (ad 15), .ref (ad 16), .ref (ad 17), .ref (ad 18), .ref (ad 19), .ref (ad 20), .ref (ad 21), .int (nI ((kIs σ).length)), .int (nI (kMk σ) - 1)])) from hM10.1) rfl 0 (by decide) (hts _ k_443) (fun _ h9 => h9) rfl d_MM_rule_85 ?_
          refine lv_iload_n hx hb d_MM_rule_88 rfl (lv_at hl 0 rfl) ?_
          refine g_iald (v := ((kBu σ).getD 0 (0, 0)).1) hx hb hK.1 hP 0 (show A9 (21, 0) = some (ad 0, .inl (cI, 3, .inl (F 0))) from hM10.2.1 0 rfl) rfl (by unfold vp_in; decide) (by rw [show (0 : Int32).toNatClampNeg = 0 by decide]; exact (hb0 0 (by omega)).1) d_MM_rule_89 ?_
          refine g_iast (k := 3 * ((kRs σ).length) + 0) hx hb hK.1 hP hS 0 (show A9 (27, 0) = some (ad 6, .inl (cI, 72, .inl (F 6))) from hM10.2.1 6 rfl) rfl (vp_in_nI (show 3 * ((kRs σ).length) + 0 < 72 by omega) (by omega)) (nI_clamp (show 3 * ((kRs σ).length) + 0 < 2 ^ 31 by omega)) d_MM_rule_90 (fun H locs hP hS => ?_)
          obtain ⟨A27, eA27⟩ : ∃ z, z = gU A9 (27, 0) (ad 6, .inl (cI, 72, .inl (upd (F 6) (3 * ((kRs σ).length) + 0) (((kBu σ).getD 0 (0, 0)).1)))) := ⟨_, rfl⟩
          replace hP : gP D classes b A27 H := by rw [eA27]; exact hP
          have hM28 : rMM cI cZ cL A27 h ad (va_up (va_up (va_up (va_up F 3 (upd (F 3) ((kRs σ).length) (nI mk))) 4 (upd (F 4) ((kRs σ).length) (nI mt))) 5 (upd (F 5) ((kRs σ).length) (1))) 6 (upd (F 6) (3 * ((kRs σ).length) + 0) (((kBu σ).getD 0 (0, 0)).1))) G ((kBu σ).length) ((kRs σ).length) ((kIs σ).length) (kMk σ) := by rw [eA27]; exact hM10.put 6 rfl _
          have glA27 : gL A A27 := by rw [eA27]; exact glA9.U (by decide)
          refine lv_aload_n hx hb d_MM_rule_91 rfl (lv_at hl 1 rfl) ?_
          refine g_get hx hb hts i_MM hown hK.1 hP (show A27 (20, 0) = some (h, .inr (5, [.ref (ad 0), .ref (ad 1), .int (nI ((kBu σ).length)), .ref (ad 3), .ref (ad 4), .ref (ad 5), .ref (ad 6), .ref (ad 7), .ref (ad 8), .ref (ad 9), .ref (ad 10), .int (nI ((kRs σ).length)), .ref (ad 12), .ref (ad 13), .ref (ad 14), .ref (ad 15), .ref (ad 16), .ref (ad 17), .ref (ad 18), .ref (ad 19), .ref (ad 20), .ref (ad 21), .int (nI ((kIs σ).length)), .int (nI (kMk σ) - 1)])) from hM28.1) rfl 7 (by decide) (hts _ k_450) (fun _ h9 => h9) rfl d_MM_rule_92 ?_
          refine lv_iconst (v := 3) hx hb d_MM_rule_95 (by decide) ?_
          refine lv_aload_n hx hb d_MM_rule_96 rfl (lv_at hl 1 rfl) ?_
          refine g_get hx hb hts i_MM hown hK.1 hP (show A27 (20, 0) = some (h, .inr (5, [.ref (ad 0), .ref (ad 1), .int (nI ((kBu σ).length)), .ref (ad 3), .ref (ad 4), .ref (ad 5), .ref (ad 6), .ref (ad 7), .ref (ad 8), .ref (ad 9), .ref (ad 10), .int (nI ((kRs σ).length)), .ref (ad 12), .ref (ad 13), .ref (ad 14), .ref (ad 15), .ref (ad 16), .ref (ad 17), .ref (ad 18), .ref (ad 19), .ref (ad 20), .ref (ad 21), .int (nI ((kIs σ).length)), .int (nI (kMk σ) - 1)])) from hM28.1) rfl 11 (by decide) (hts _ k_454) (fun _ h9 => h9) rfl d_MM_rule_97 ?_
          refine lv_imul hx hb d_MM_rule_100 ?_
          rw [mul3 _]
          refine lv_iload_n hx hb d_MM_rule_101 rfl (lv_at hl 0 rfl) ?_
          refine lv_iadd hx hb d_MM_rule_102 ?_
          rw [show nI (3 * ((kRs σ).length)) + 0 = nI (3 * ((kRs σ).length) + 0) from nI_add _ 0]
          refine lv_aload_n hx hb d_MM_rule_103 rfl (lv_at hl 1 rfl) ?_
          refine g_get hx hb hts i_MM hown hK.1 hP (show A27 (20, 0) = some (h, .inr (5, [.ref (ad 0), .ref (ad 1), .int (nI ((kBu σ).length)), .ref (ad 3), .ref (ad 4), .ref (ad 5), .ref (ad 6), .ref (ad 7), .ref (ad 8), .ref (ad 9), .ref (ad 10), .int (nI ((kRs σ).length)), .ref (ad 12), .ref (ad 13), .ref (ad 14), .ref (ad 15), .ref (ad 16), .ref (ad 17), .ref (ad 18), .ref (ad 19), .ref (ad 20), .ref (ad 21), .int (nI ((kIs σ).length)), .int (nI (kMk σ) - 1)])) from hM28.1) rfl 1 (by decide) (hts _ k_444) (fun _ h9 => h9) rfl d_MM_rule_104 ?_
          refine lv_iload_n hx hb d_MM_rule_107 rfl (lv_at hl 0 rfl) ?_
          refine g_iald (v := ((kBu σ).getD 0 (0, 0)).2) hx hb hK.1 hP 0 (show A27 (22, 0) = some (ad 1, .inl (cI, 3, .inl (F 1))) from hM28.2.1 1 rfl) rfl (by unfold vp_in; decide) (by rw [show (0 : Int32).toNatClampNeg = 0 by decide]; exact (hb0 0 (by omega)).2) d_MM_rule_108 ?_
          refine g_iast (k := 3 * ((kRs σ).length) + 0) hx hb hK.1 hP hS 0 (show A27 (28, 0) = some (ad 7, .inl (cI, 72, .inl (F 7))) from hM28.2.1 7 rfl) rfl (vp_in_nI (show 3 * ((kRs σ).length) + 0 < 72 by omega) (by omega)) (nI_clamp (show 3 * ((kRs σ).length) + 0 < 2 ^ 31 by omega)) d_MM_rule_109 (fun H locs hP hS => ?_)
          obtain ⟨A29, eA29⟩ : ∃ z, z = gU A27 (28, 0) (ad 7, .inl (cI, 72, .inl (upd (F 7) (3 * ((kRs σ).length) + 0) (((kBu σ).getD 0 (0, 0)).2)))) := ⟨_, rfl⟩
          replace hP : gP D classes b A29 H := by rw [eA29]; exact hP
          have hM30 : rMM cI cZ cL A29 h ad (va_up (va_up (va_up (va_up (va_up F 3 (upd (F 3) ((kRs σ).length) (nI mk))) 4 (upd (F 4) ((kRs σ).length) (nI mt))) 5 (upd (F 5) ((kRs σ).length) (1))) 6 (upd (F 6) (3 * ((kRs σ).length) + 0) (((kBu σ).getD 0 (0, 0)).1))) 7 (upd (F 7) (3 * ((kRs σ).length) + 0) (((kBu σ).getD 0 (0, 0)).2))) G ((kBu σ).length) ((kRs σ).length) ((kIs σ).length) (kMk σ) := by rw [eA29]; exact hM28.put 7 rfl _
          have glA29 : gL A A29 := by rw [eA29]; exact glA27.U (by decide)
          refine lv_iinc (v := 1) (lv' := [(3, .int 1), (0, .ref h), (1, .int (nI mk)), (2, .int (nI mt))]) hx hb d_MM_rule_110 hl (k := 0) rfl (by decide) (by decide) rfl (fun ls hl => ?_)
          refine lv_goto (tgt := 64) hx hb d_MM_rule_113 (by decide) ?_
          refine lv_iload_n hx hb d_MM_rule_64 rfl (lv_at hl 0 rfl) ?_
          refine lv_aload_n hx hb d_MM_rule_65 rfl (lv_at hl 1 rfl) ?_
          refine g_get hx hb hts i_MM hown hK.1 hP (show A29 (20, 0) = some (h, .inr (5, [.ref (ad 0), .ref (ad 1), .int (nI ((kBu σ).length)), .ref (ad 3), .ref (ad 4), .ref (ad 5), .ref (ad 6), .ref (ad 7), .ref (ad 8), .ref (ad 9), .ref (ad 10), .int (nI ((kRs σ).length)), .ref (ad 12), .ref (ad 13), .ref (ad 14), .ref (ad 15), .ref (ad 16), .ref (ad 17), .ref (ad 18), .ref (ad 19), .ref (ad 20), .ref (ad 21), .int (nI ((kIs σ).length)), .int (nI (kMk σ) - 1)])) from hM30.1) rfl 2 (by decide) (hts _ k_445) (fun _ h9 => h9) rfl d_MM_rule_66 ?_
          refine lv_icmp_ge (tgt := 116) hx hb d_MM_rule_69 (by decide) (fun h9 => absurd h9 (nI_ge (show 1 < (kBu σ).length by omega) (by omega))) (fun _ => ?_)
          refine lv_aload_n hx hb d_MM_rule_72 rfl (lv_at hl 1 rfl) ?_
          refine g_get hx hb hts i_MM hown hK.1 hP (show A29 (20, 0) = some (h, .inr (5, [.ref (ad 0), .ref (ad 1), .int (nI ((kBu σ).length)), .ref (ad 3), .ref (ad 4), .ref (ad 5), .ref (ad 6), .ref (ad 7), .ref (ad 8), .ref (ad 9), .ref (ad 10), .int (nI ((kRs σ).length)), .ref (ad 12), .ref (ad 13), .ref (ad 14), .ref (ad 15), .ref (ad 16), .ref (ad 17), .ref (ad 18), .ref (ad 19), .ref (ad 20), .ref (ad 21), .int (nI ((kIs σ).length)), .int (nI (kMk σ) - 1)])) from hM30.1) rfl 6 (by decide) (hts _ k_449) (fun _ h9 => h9) rfl d_MM_rule_73 ?_
          refine lv_iconst (v := 3) hx hb d_MM_rule_76 (by decide) ?_
          refine lv_aload_n hx hb d_MM_rule_77 rfl (lv_at hl 1 rfl) ?_
          refine g_get hx hb hts i_MM hown hK.1 hP (show A29 (20, 0) = some (h, .inr (5, [.ref (ad 0), .ref (ad 1), .int (nI ((kBu σ).length)), .ref (ad 3), .ref (ad 4), .ref (ad 5), .ref (ad 6), .ref (ad 7), .ref (ad 8), .ref (ad 9), .ref (ad 10), .int (nI ((kRs σ).length)), .ref (ad 12), .ref (ad 13), .ref (ad 14), .ref (ad 15), .ref (ad 16), .ref (ad 17), .ref (ad 18), .ref (ad 19), .ref (ad 20), .ref (ad 21), .int (nI ((kIs σ).length)), .int (nI (kMk σ) - 1)])) from hM30.1) rfl 11 (by decide) (hts _ k_454) (fun _ h9 => h9) rfl d_MM_rule_78 ?_
          refine lv_imul hx hb d_MM_rule_81 ?_
          rw [mul3 _]
          refine lv_iload_n hx hb d_MM_rule_82 rfl (lv_at hl 0 rfl) ?_
          refine lv_iadd hx hb d_MM_rule_83 ?_
          rw [nI_1 _]
          refine lv_aload_n hx hb d_MM_rule_84 rfl (lv_at hl 1 rfl) ?_
          refine g_get hx hb hts i_MM hown hK.1 hP (show A29 (20, 0) = some (h, .inr (5, [.ref (ad 0), .ref (ad 1), .int (nI ((kBu σ).length)), .ref (ad 3), .ref (ad 4), .ref (ad 5), .ref (ad 6), .ref (ad 7), .ref (ad 8), .ref (ad 9), .ref (ad 10), .int (nI ((kRs σ).length)), .ref (ad 12), .ref (ad 13), .ref (ad 14), .ref (ad 15), .ref (ad 16), .ref (ad 17), .ref (ad 18), .ref (ad 19), .ref (ad 20), .ref (ad 21), .int (nI ((kIs σ).length)), .int (nI (kMk σ) - 1)])) from hM30.1) rfl 0 (by decide) (hts _ k_443) (fun _ h9 => h9) rfl d_MM_rule_85 ?_
          refine lv_iload_n hx hb d_MM_rule_88 rfl (lv_at hl 0 rfl) ?_
          refine g_iald (v := ((kBu σ).getD 1 (0, 0)).1) hx hb hK.1 hP 0 (show A29 (21, 0) = some (ad 0, .inl (cI, 3, .inl (F 0))) from hM30.2.1 0 rfl) rfl (by unfold vp_in; decide) (by rw [show (1 : Int32).toNatClampNeg = 1 by decide]; exact (hb0 1 (by omega)).1) d_MM_rule_89 ?_
          refine g_iast (k := 3 * ((kRs σ).length) + 1) hx hb hK.1 hP hS 0 (show A29 (27, 0) = some (ad 6, .inl (cI, 72, .inl (upd (F 6) (3 * ((kRs σ).length) + 0) (((kBu σ).getD 0 (0, 0)).1)))) from hM30.2.1 6 rfl) rfl (vp_in_nI (show 3 * ((kRs σ).length) + 1 < 72 by omega) (by omega)) (nI_clamp (show 3 * ((kRs σ).length) + 1 < 2 ^ 31 by omega)) d_MM_rule_90 (fun H locs hP hS => ?_)
          obtain ⟨A32, eA32⟩ : ∃ z, z = gU A29 (27, 0) (ad 6, .inl (cI, 72, .inl (upd (upd (F 6) (3 * ((kRs σ).length) + 0) (((kBu σ).getD 0 (0, 0)).1)) (3 * ((kRs σ).length) + 1) (((kBu σ).getD 1 (0, 0)).1)))) := ⟨_, rfl⟩
          replace hP : gP D classes b A32 H := by rw [eA32]; exact hP
          have hM33 : rMM cI cZ cL A32 h ad (va_up (va_up (va_up (va_up (va_up (va_up F 3 (upd (F 3) ((kRs σ).length) (nI mk))) 4 (upd (F 4) ((kRs σ).length) (nI mt))) 5 (upd (F 5) ((kRs σ).length) (1))) 6 (upd (F 6) (3 * ((kRs σ).length) + 0) (((kBu σ).getD 0 (0, 0)).1))) 7 (upd (F 7) (3 * ((kRs σ).length) + 0) (((kBu σ).getD 0 (0, 0)).2))) 6 (upd (upd (F 6) (3 * ((kRs σ).length) + 0) (((kBu σ).getD 0 (0, 0)).1)) (3 * ((kRs σ).length) + 1) (((kBu σ).getD 1 (0, 0)).1))) G ((kBu σ).length) ((kRs σ).length) ((kIs σ).length) (kMk σ) := by rw [eA32]; exact hM30.put 6 rfl _
          have glA32 : gL A A32 := by rw [eA32]; exact glA29.U (by decide)
          refine lv_aload_n hx hb d_MM_rule_91 rfl (lv_at hl 1 rfl) ?_
          refine g_get hx hb hts i_MM hown hK.1 hP (show A32 (20, 0) = some (h, .inr (5, [.ref (ad 0), .ref (ad 1), .int (nI ((kBu σ).length)), .ref (ad 3), .ref (ad 4), .ref (ad 5), .ref (ad 6), .ref (ad 7), .ref (ad 8), .ref (ad 9), .ref (ad 10), .int (nI ((kRs σ).length)), .ref (ad 12), .ref (ad 13), .ref (ad 14), .ref (ad 15), .ref (ad 16), .ref (ad 17), .ref (ad 18), .ref (ad 19), .ref (ad 20), .ref (ad 21), .int (nI ((kIs σ).length)), .int (nI (kMk σ) - 1)])) from hM33.1) rfl 7 (by decide) (hts _ k_450) (fun _ h9 => h9) rfl d_MM_rule_92 ?_
          refine lv_iconst (v := 3) hx hb d_MM_rule_95 (by decide) ?_
          refine lv_aload_n hx hb d_MM_rule_96 rfl (lv_at hl 1 rfl) ?_
          refine g_get hx hb hts i_MM hown hK.1 hP (show A32 (20, 0) = some (h, .inr (5, [.ref (ad 0), .ref (ad 1), .int (nI ((kBu σ).length)), .ref (ad 3), .ref (ad 4), .ref (ad 5), .ref (ad 6), .ref (ad 7), .ref (ad 8), .ref (ad 9), .ref (ad 10), .int (nI ((kRs σ).length)), .ref (ad 12), .ref (ad 13), .ref (ad 14), .ref (ad 15), .ref (ad 16), .ref (ad 17), .ref (ad 18), .ref (ad 19), .ref (ad 20), .ref (ad 21), .int (nI ((kIs σ).length)), .int (nI (kMk σ) - 1)])) from hM33.1) rfl 11 (by decide) (hts _ k_454) (fun _ h9 => h9) rfl d_MM_rule_97 ?_
          refine lv_imul hx hb d_MM_rule_100 ?_
          rw [mul3 _]
          refine lv_iload_n hx hb d_MM_rule_101 rfl (lv_at hl 0 rfl) ?_
          refine lv_iadd hx hb d_MM_rule_102 ?_
          rw [nI_1 _]
          refine lv_aload_n hx hb d_MM_rule_103 rfl (lv_at hl 1 rfl) ?_
          refine g_get hx hb hts i_MM hown hK.1 hP (show A32 (20, 0) = some (h, .inr (5, [.ref (ad 0), .ref (ad 1), .int (nI ((kBu σ).length)), .ref (ad 3), .ref (ad 4), .ref (ad 5), .ref (ad 6), .ref (ad 7), .ref (ad 8), .ref (ad 9), .ref (ad 10), .int (nI ((kRs σ).length)), .ref (ad 12), .ref (ad 13), .ref (ad 14), .ref (ad 15), .ref (ad 16), .ref (ad 17), .ref (ad 18), .ref (ad 19), .ref (ad 20), .ref (ad 21), .int (nI ((kIs σ).length)), .int (nI (kMk σ) - 1)])) from hM33.1) rfl 1 (by decide) (hts _ k_444) (fun _ h9 => h9) rfl d_MM_rule_104 ?_
          refine lv_iload_n hx hb d_MM_rule_107 rfl (lv_at hl 0 rfl) ?_
          refine g_iald (v := ((kBu σ).getD 1 (0, 0)).2) hx hb hK.1 hP 0 (show A32 (22, 0) = some (ad 1, .inl (cI, 3, .inl (F 1))) from hM33.2.1 1 rfl) rfl (by unfold vp_in; decide) (by rw [show (1 : Int32).toNatClampNeg = 1 by decide]; exact (hb0 1 (by omega)).2) d_MM_rule_108 ?_
          refine g_iast (k := 3 * ((kRs σ).length) + 1) hx hb hK.1 hP hS 0 (show A32 (28, 0) = some (ad 7, .inl (cI, 72, .inl (upd (F 7) (3 * ((kRs σ).length) + 0) (((kBu σ).getD 0 (0, 0)).2)))) from hM33.2.1 7 rfl) rfl (vp_in_nI (show 3 * ((kRs σ).length) + 1 < 72 by omega) (by omega)) (nI_clamp (show 3 * ((kRs σ).length) + 1 < 2 ^ 31 by omega)) d_MM_rule_109 (fun H locs hP hS => ?_)
          obtain ⟨A34, eA34⟩ : ∃ z, z = gU A32 (28, 0) (ad 7, .inl (cI, 72, .inl (upd (upd (F 7) (3 * ((kRs σ).length) + 0) (((kBu σ).getD 0 (0, 0)).2)) (3 * ((kRs σ).length) + 1) (((kBu σ).getD 1 (0, 0)).2)))) := ⟨_, rfl⟩
          replace hP : gP D classes b A34 H := by rw [eA34]; exact hP
          have hM35 : rMM cI cZ cL A34 h ad (va_up (va_up (va_up (va_up (va_up (va_up (va_up F 3 (upd (F 3) ((kRs σ).length) (nI mk))) 4 (upd (F 4) ((kRs σ).length) (nI mt))) 5 (upd (F 5) ((kRs σ).length) (1))) 6 (upd (F 6) (3 * ((kRs σ).length) + 0) (((kBu σ).getD 0 (0, 0)).1))) 7 (upd (F 7) (3 * ((kRs σ).length) + 0) (((kBu σ).getD 0 (0, 0)).2))) 6 (upd (upd (F 6) (3 * ((kRs σ).length) + 0) (((kBu σ).getD 0 (0, 0)).1)) (3 * ((kRs σ).length) + 1) (((kBu σ).getD 1 (0, 0)).1))) 7 (upd (upd (F 7) (3 * ((kRs σ).length) + 0) (((kBu σ).getD 0 (0, 0)).2)) (3 * ((kRs σ).length) + 1) (((kBu σ).getD 1 (0, 0)).2))) G ((kBu σ).length) ((kRs σ).length) ((kIs σ).length) (kMk σ) := by rw [eA34]; exact hM33.put 7 rfl _
          have glA34 : gL A A34 := by rw [eA34]; exact glA32.U (by decide)
          refine lv_iinc (v := 2) (lv' := [(3, .int 2), (0, .ref h), (1, .int (nI mk)), (2, .int (nI mt))]) hx hb d_MM_rule_110 hl (k := 0) rfl (by decide) (by decide) rfl (fun ls hl => ?_)
          refine lv_goto (tgt := 64) hx hb d_MM_rule_113 (by decide) ?_
          refine lv_iload_n hx hb d_MM_rule_64 rfl (lv_at hl 0 rfl) ?_
          refine lv_aload_n hx hb d_MM_rule_65 rfl (lv_at hl 1 rfl) ?_
          refine g_get hx hb hts i_MM hown hK.1 hP (show A34 (20, 0) = some (h, .inr (5, [.ref (ad 0), .ref (ad 1), .int (nI ((kBu σ).length)), .ref (ad 3), .ref (ad 4), .ref (ad 5), .ref (ad 6), .ref (ad 7), .ref (ad 8), .ref (ad 9), .ref (ad 10), .int (nI ((kRs σ).length)), .ref (ad 12), .ref (ad 13), .ref (ad 14), .ref (ad 15), .ref (ad 16), .ref (ad 17), .ref (ad 18), .ref (ad 19), .ref (ad 20), .ref (ad 21), .int (nI ((kIs σ).length)), .int (nI (kMk σ) - 1)])) from hM35.1) rfl 2 (by decide) (hts _ k_445) (fun _ h9 => h9) rfl d_MM_rule_66 ?_
          refine lv_icmp_ge (tgt := 116) hx hb d_MM_rule_69 (by decide) (fun _ => ?_) (fun h9 => absurd (nI_le (show (kBu σ).length ≤ 2 by omega) (by omega)) h9)
          refine lv_aload_n hx hb d_MM_rule_116 rfl (lv_at hl 1 rfl) ?_
          refine lv_iconst (v := 0) hx hb d_MM_rule_117 (by decide) ?_
          refine g_put (ty := .int) (v := .int 0) hx hb hts i_MM t_MM t_MM_ok n_MM hown hK.1 hP hS (show A34 (20, 0) = some (h, .inr (5, [.ref (ad 0), .ref (ad 1), .int (nI ((kBu σ).length)), .ref (ad 3), .ref (ad 4), .ref (ad 5), .ref (ad 6), .ref (ad 7), .ref (ad 8), .ref (ad 9), .ref (ad 10), .int (nI ((kRs σ).length)), .ref (ad 12), .ref (ad 13), .ref (ad 14), .ref (ad 15), .ref (ad 16), .ref (ad 17), .ref (ad 18), .ref (ad 19), .ref (ad 20), .ref (ad 21), .int (nI ((kIs σ).length)), .int (nI (kMk σ) - 1)])) from hM35.1) rfl 2 (by decide) (hts _ k_445) (fun _ h9 => h9) rfl (by decide +kernel) rfl rfl (Nat.le_of_ble_eq_true rfl) d_MM_rule_118 (fun H locs hP hS => ?_)
          obtain ⟨A37, eA37⟩ : ∃ z, z = gU A34 (20, 0) (h, .inr (5, [.ref (ad 0), .ref (ad 1), .int 0, .ref (ad 3), .ref (ad 4), .ref (ad 5), .ref (ad 6), .ref (ad 7), .ref (ad 8), .ref (ad 9), .ref (ad 10), .int (nI ((kRs σ).length)), .ref (ad 12), .ref (ad 13), .ref (ad 14), .ref (ad 15), .ref (ad 16), .ref (ad 17), .ref (ad 18), .ref (ad 19), .ref (ad 20), .ref (ad 21), .int (nI ((kIs σ).length)), .int (nI (kMk σ) - 1)])) := ⟨_, rfl⟩
          replace hP : gP D classes b A37 H := by rw [eA37]; exact hP
          have hM38 : rMM cI cZ cL A37 h ad (va_up (va_up (va_up (va_up (va_up (va_up (va_up F 3 (upd (F 3) ((kRs σ).length) (nI mk))) 4 (upd (F 4) ((kRs σ).length) (nI mt))) 5 (upd (F 5) ((kRs σ).length) (1))) 6 (upd (F 6) (3 * ((kRs σ).length) + 0) (((kBu σ).getD 0 (0, 0)).1))) 7 (upd (F 7) (3 * ((kRs σ).length) + 0) (((kBu σ).getD 0 (0, 0)).2))) 6 (upd (upd (F 6) (3 * ((kRs σ).length) + 0) (((kBu σ).getD 0 (0, 0)).1)) (3 * ((kRs σ).length) + 1) (((kBu σ).getD 1 (0, 0)).1))) 7 (upd (upd (F 7) (3 * ((kRs σ).length) + 0) (((kBu σ).getD 0 (0, 0)).2)) (3 * ((kRs σ).length) + 1) (((kBu σ).getD 1 (0, 0)).2))) G 0 ((kRs σ).length) ((kIs σ).length) ((kMk σ)) := by rw [eA37]; exact hM35.obj
          have glA37 : gL A A37 := by rw [eA37]; exact glA34.U (by decide)
          refine lv_aload_n hx hb d_MM_rule_121 rfl (lv_at hl 1 rfl) ?_
          refine lv_dup hx hb d_MM_rule_122 rfl ?_
          refine g_get hx hb hts i_MM hown hK.1 hP (show A37 (20, 0) = some (h, .inr (5, [.ref (ad 0), .ref (ad 1), .int (nI 0), .ref (ad 3), .ref (ad 4), .ref (ad 5), .ref (ad 6), .ref (ad 7), .ref (ad 8), .ref (ad 9), .ref (ad 10), .int (nI ((kRs σ).length)), .ref (ad 12), .ref (ad 13), .ref (ad 14), .ref (ad 15), .ref (ad 16), .ref (ad 17), .ref (ad 18), .ref (ad 19), .ref (ad 20), .ref (ad 21), .int (nI ((kIs σ).length)), .int (nI ((kMk σ)) - 1)])) from hM38.1) rfl 11 (by decide) (hts _ k_454) (fun _ h9 => h9) rfl d_MM_rule_123 ?_
          refine lv_iconst (v := 1) hx hb d_MM_rule_126 (by decide) ?_
          refine lv_iadd hx hb d_MM_rule_127 ?_
          rw [nI_1 _]
          refine g_put (ty := .int) (v := .int (nI ((kRs σ).length + 1))) hx hb hts i_MM t_MM t_MM_ok n_MM hown hK.1 hP hS (show A37 (20, 0) = some (h, .inr (5, [.ref (ad 0), .ref (ad 1), .int (nI 0), .ref (ad 3), .ref (ad 4), .ref (ad 5), .ref (ad 6), .ref (ad 7), .ref (ad 8), .ref (ad 9), .ref (ad 10), .int (nI ((kRs σ).length)), .ref (ad 12), .ref (ad 13), .ref (ad 14), .ref (ad 15), .ref (ad 16), .ref (ad 17), .ref (ad 18), .ref (ad 19), .ref (ad 20), .ref (ad 21), .int (nI ((kIs σ).length)), .int (nI ((kMk σ)) - 1)])) from hM38.1) rfl 11 (by decide) (hts _ k_454) (fun _ h9 => h9) rfl (by decide +kernel) rfl rfl (Nat.le_of_ble_eq_true rfl) d_MM_rule_128 (fun H locs hP hS => ?_)
          obtain ⟨A39, eA39⟩ : ∃ z, z = gU A37 (20, 0) (h, .inr (5, [.ref (ad 0), .ref (ad 1), .int (nI 0), .ref (ad 3), .ref (ad 4), .ref (ad 5), .ref (ad 6), .ref (ad 7), .ref (ad 8), .ref (ad 9), .ref (ad 10), .int (nI ((kRs σ).length + 1)), .ref (ad 12), .ref (ad 13), .ref (ad 14), .ref (ad 15), .ref (ad 16), .ref (ad 17), .ref (ad 18), .ref (ad 19), .ref (ad 20), .ref (ad 21), .int (nI ((kIs σ).length)), .int (nI ((kMk σ)) - 1)])) := ⟨_, rfl⟩
          replace hP : gP D classes b A39 H := by rw [eA39]; exact hP
          have hM40 : rMM cI cZ cL A39 h ad (va_up (va_up (va_up (va_up (va_up (va_up (va_up F 3 (upd (F 3) ((kRs σ).length) (nI mk))) 4 (upd (F 4) ((kRs σ).length) (nI mt))) 5 (upd (F 5) ((kRs σ).length) (1))) 6 (upd (F 6) (3 * ((kRs σ).length) + 0) (((kBu σ).getD 0 (0, 0)).1))) 7 (upd (F 7) (3 * ((kRs σ).length) + 0) (((kBu σ).getD 0 (0, 0)).2))) 6 (upd (upd (F 6) (3 * ((kRs σ).length) + 0) (((kBu σ).getD 0 (0, 0)).1)) (3 * ((kRs σ).length) + 1) (((kBu σ).getD 1 (0, 0)).1))) 7 (upd (upd (F 7) (3 * ((kRs σ).length) + 0) (((kBu σ).getD 0 (0, 0)).2)) (3 * ((kRs σ).length) + 1) (((kBu σ).getD 1 (0, 0)).2))) G 0 ((kRs σ).length + 1) ((kIs σ).length) (((kMk σ))) := by rw [eA39]; exact hM38.obj
          have glA39 : gL A A39 := by rw [eA39]; exact glA37.U (by decide)
          refine lv_aload_n hx hb d_MM_rule_131 rfl (lv_at hl 1 rfl) ?_
          refine g_get hx hb hts i_MM hown hK.1 hP (show A39 (20, 0) = some (h, .inr (5, [.ref (ad 0), .ref (ad 1), .int (nI 0), .ref (ad 3), .ref (ad 4), .ref (ad 5), .ref (ad 6), .ref (ad 7), .ref (ad 8), .ref (ad 9), .ref (ad 10), .int (nI ((kRs σ).length + 1)), .ref (ad 12), .ref (ad 13), .ref (ad 14), .ref (ad 15), .ref (ad 16), .ref (ad 17), .ref (ad 18), .ref (ad 19), .ref (ad 20), .ref (ad 21), .int (nI ((kIs σ).length)), .int (nI (((kMk σ))) - 1)])) from hM40.1) rfl 11 (by decide) (hts _ k_454) (fun _ h9 => h9) rfl d_MM_rule_132 ?_
          refine lv_iconst (v := 1) hx hb d_MM_rule_135 (by decide) ?_
          refine lv_isub hx hb d_MM_rule_136 ?_
          rw [nI_pred _]
          obtain ⟨F9, eF9⟩ : ∃ z : Nat → Nat → Int32, z = (va_up (va_up (va_up (va_up (va_up (va_up (va_up F 3 (upd (F 3) ((kRs σ).length) (nI mk))) 4 (upd (F 4) ((kRs σ).length) (nI mt))) 5 (upd (F 5) ((kRs σ).length) (1))) 6 (upd (F 6) (3 * ((kRs σ).length) + 0) (((kBu σ).getD 0 (0, 0)).1))) 7 (upd (F 7) (3 * ((kRs σ).length) + 0) (((kBu σ).getD 0 (0, 0)).2))) 6 (upd (upd (F 6) (3 * ((kRs σ).length) + 0) (((kBu σ).getD 0 (0, 0)).1)) (3 * ((kRs σ).length) + 1) (((kBu σ).getD 1 (0, 0)).1))) 7 (upd (upd (F 7) (3 * ((kRs σ).length) + 0) (((kBu σ).getD 0 (0, 0)).2)) (3 * ((kRs σ).length) + 1) (((kBu σ).getD 1 (0, 0)).2))) := ⟨_, rfl⟩
          rw [← eF9] at hM40
          have e9_3 : F9 3 = (upd (F 3) ((kRs σ).length) (nI mk)) := by rw [eF9]; rfl
          have e9_4 : F9 4 = (upd (F 4) ((kRs σ).length) (nI mt)) := by rw [eF9]; rfl
          have e9_5 : F9 5 = (upd (F 5) ((kRs σ).length) (1)) := by rw [eF9]; rfl
          have e9_6 : F9 6 = (upd (upd (F 6) (3 * ((kRs σ).length) + 0) (((kBu σ).getD 0 (0, 0)).1)) (3 * ((kRs σ).length) + 1) (((kBu σ).getD 1 (0, 0)).1)) := by rw [eF9]; rfl
          have e9_7 : F9 7 = (upd (upd (F 7) (3 * ((kRs σ).length) + 0) (((kBu σ).getD 0 (0, 0)).2)) (3 * ((kRs σ).length) + 1) (((kBu σ).getD 1 (0, 0)).2)) := by rw [eF9]; rfl
          have e9_8 : F9 8 = F 8 := by rw [eF9]; rfl
          have e9_9 : F9 9 = F 9 := by rw [eF9]; rfl
          have e9_10 : F9 10 = F 10 := by rw [eF9]; rfl
          have e9_12 : F9 12 = F 12 := by rw [eF9]; rfl
          have e9_13 : F9 13 = F 13 := by rw [eF9]; rfl
          have e9_14 : F9 14 = F 14 := by rw [eF9]; rfl
          have e9_15 : F9 15 = F 15 := by rw [eF9]; rfl
          have e9_16 : F9 16 = F 16 := by rw [eF9]; rfl
          have e9_17 : F9 17 = F 17 := by rw [eF9]; rfl
          have e9_18 : F9 18 = F 18 := by rw [eF9]; rfl
          have e9_20 : F9 20 = F 20 := by rw [eF9]; rfl
          have e9_21 : F9 21 = F 21 := by rw [eF9]; rfl
          have hru9 : mRu F9 (kRs σ).length (mk, mt, kBu σ, [], 0, true) := ⟨by rw [e9_3]; exact pk_us, by rw [e9_4]; exact pk_us, by rw [e9_5]; exact pk_us, by rw [e9_10]; exact hrz _ (Nat.le_refl _) (by omega), fun j hj => by
            replace hj : j < (kBu σ).length := hj
            rcases (by omega : j = 0 ∨ j = 1) with rfl | rfl <;> simp [e9_6, e9_7, upd], fun j hj => absurd hj (Nat.not_lt_zero j)⟩
          have hrep := hR.ar (F' := F9) (r := (mk, mt, kBu σ, [], 0, true)) (by omega) (fun j hj => by have h9 := (w3 j hj).2.2.2.1; omega) (fun i hi => ⟨by rw [e9_3, pk_un (by omega)], by rw [e9_4, pk_un (by omega)], by rw [e9_5, pk_un (by omega)]⟩) (fun x9 hx9 => ⟨by rw [e9_6, pk_un (by omega), pk_un (by omega)], by rw [e9_7, pk_un (by omega), pk_un (by omega)]⟩) ⟨e9_8, e9_9, e9_10⟩ ⟨e9_12, e9_13, e9_14, e9_15, e9_16, e9_17, e9_18, e9_20, e9_21⟩ hru9
          have e9 : sRule σ (nI mk) (nI mt) = ((kRs σ ++ [(mk, mt, kBu σ, [], 0, true)], kIs σ, kSt σ, [], kMk σ), nI ((kRs σ).length)) := by unfold sRule; rw [if_pos (by simp_all), hc1, hc2, if_pos (by simp_all), if_neg (by omega)]
          refine W.widen (k := 0) (n := 0) (by decide) (by decide) ?_
          exact W.iret hx hb hr (fun t ht _ => ⟨⟨_, A39, rfl, ⟨by rw [e9], by rw [e9]; exact ⟨ad, F9, G, (by rw [lenS]; exact hM40), hrep⟩, glA39⟩, show gP D classes b A39 t.heap by rw [ht]; exact hP⟩, hS.F ht⟩) hS.2.2 d_MM_rule_137
        · skip
          refine lv_iload_n hx hb d_MM_rule_64 rfl (lv_at hl 0 rfl) ?_
          refine lv_aload_n hx hb d_MM_rule_65 rfl (lv_at hl 1 rfl) ?_
          refine g_get hx hb hts i_MM hown hK.1 hP (show A9 (20, 0) = some (h, .inr (5, [.ref (ad 0), .ref (ad 1), .int (nI ((kBu σ).length)), .ref (ad 3), .ref (ad 4), .ref (ad 5), .ref (ad 6), .ref (ad 7), .ref (ad 8), .ref (ad 9), .ref (ad 10), .int (nI ((kRs σ).length)), .ref (ad 12), .ref (ad 13), .ref (ad 14), .ref (ad 15), .ref (ad 16), .ref (ad 17), .ref (ad 18), .ref (ad 19), .ref (ad 20), .ref (ad 21), .int (nI ((kIs σ).length)), .int (nI (kMk σ) - 1)])) from hM10.1) rfl 2 (by decide) (hts _ k_445) (fun _ h9 => h9) rfl d_MM_rule_66 ?_
          refine lv_icmp_ge (tgt := 116) hx hb d_MM_rule_69 (by decide) (fun h9 => absurd h9 (nI_ge (show 0 < (kBu σ).length by omega) (by omega))) (fun _ => ?_)
          refine lv_aload_n hx hb d_MM_rule_72 rfl (lv_at hl 1 rfl) ?_
          refine g_get hx hb hts i_MM hown hK.1 hP (show A9 (20, 0) = some (h, .inr (5, [.ref (ad 0), .ref (ad 1), .int (nI ((kBu σ).length)), .ref (ad 3), .ref (ad 4), .ref (ad 5), .ref (ad 6), .ref (ad 7), .ref (ad 8), .ref (ad 9), .ref (ad 10), .int (nI ((kRs σ).length)), .ref (ad 12), .ref (ad 13), .ref (ad 14), .ref (ad 15), .ref (ad 16), .ref (ad 17), .ref (ad 18), .ref (ad 19), .ref (ad 20), .ref (ad 21), .int (nI ((kIs σ).length)), .int (nI (kMk σ) - 1)])) from hM10.1) rfl 6 (by decide) (hts _ k_449) (fun _ h9 => h9) rfl d_MM_rule_73 ?_
          refine lv_iconst (v := 3) hx hb d_MM_rule_76 (by decide) ?_
          refine lv_aload_n hx hb d_MM_rule_77 rfl (lv_at hl 1 rfl) ?_
          refine g_get hx hb hts i_MM hown hK.1 hP (show A9 (20, 0) = some (h, .inr (5, [.ref (ad 0), .ref (ad 1), .int (nI ((kBu σ).length)), .ref (ad 3), .ref (ad 4), .ref (ad 5), .ref (ad 6), .ref (ad 7), .ref (ad 8), .ref (ad 9), .ref (ad 10), .int (nI ((kRs σ).length)), .ref (ad 12), .ref (ad 13), .ref (ad 14), .ref (ad 15), .ref (ad 16), .ref (ad 17), .ref (ad 18), .ref (ad 19), .ref (ad 20), .ref (ad 21), .int (nI ((kIs σ).length)), .int (nI (kMk σ) - 1)])) from hM10.1) rfl 11 (by decide) (hts _ k_454) (fun _ h9 => h9) rfl d_MM_rule_78 ?_
          refine lv_imul hx hb d_MM_rule_81 ?_
          rw [mul3 _]
          refine lv_iload_n hx hb d_MM_rule_82 rfl (lv_at hl 0 rfl) ?_
          refine lv_iadd hx hb d_MM_rule_83 ?_
          rw [show nI (3 * ((kRs σ).length)) + 0 = nI (3 * ((kRs σ).length) + 0) from nI_add _ 0]
          refine lv_aload_n hx hb d_MM_rule_84 rfl (lv_at hl 1 rfl) ?_
          refine g_get hx hb hts i_MM hown hK.1 hP (show A9 (20, 0) = some (h, .inr (5, [.ref (ad 0), .ref (ad 1), .int (nI ((kBu σ).length)), .ref (ad 3), .ref (ad 4), .ref (ad 5), .ref (ad 6), .ref (ad 7), .ref (ad 8), .ref (ad 9), .ref (ad 10), .int (nI ((kRs σ).length)), .ref (ad 12), .ref (ad 13), .ref (ad 14), .ref (ad 15), .ref (ad 16), .ref (ad 17), .ref (ad 18), .ref (ad 19), .ref (ad 20), .ref (ad 21), .int (nI ((kIs σ).length)), .int (nI (kMk σ) - 1)])) from hM10.1) rfl 0 (by decide) (hts _ k_443) (fun _ h9 => h9) rfl d_MM_rule_85 ?_
          refine lv_iload_n hx hb d_MM_rule_88 rfl (lv_at hl 0 rfl) ?_
          refine g_iald (v := ((kBu σ).getD 0 (0, 0)).1) hx hb hK.1 hP 0 (show A9 (21, 0) = some (ad 0, .inl (cI, 3, .inl (F 0))) from hM10.2.1 0 rfl) rfl (by unfold vp_in; decide) (by rw [show (0 : Int32).toNatClampNeg = 0 by decide]; exact (hb0 0 (by omega)).1) d_MM_rule_89 ?_
          refine g_iast (k := 3 * ((kRs σ).length) + 0) hx hb hK.1 hP hS 0 (show A9 (27, 0) = some (ad 6, .inl (cI, 72, .inl (F 6))) from hM10.2.1 6 rfl) rfl (vp_in_nI (show 3 * ((kRs σ).length) + 0 < 72 by omega) (by omega)) (nI_clamp (show 3 * ((kRs σ).length) + 0 < 2 ^ 31 by omega)) d_MM_rule_90 (fun H locs hP hS => ?_)
          obtain ⟨A42, eA42⟩ : ∃ z, z = gU A9 (27, 0) (ad 6, .inl (cI, 72, .inl (upd (F 6) (3 * ((kRs σ).length) + 0) (((kBu σ).getD 0 (0, 0)).1)))) := ⟨_, rfl⟩
          replace hP : gP D classes b A42 H := by rw [eA42]; exact hP
          have hM43 : rMM cI cZ cL A42 h ad (va_up (va_up (va_up (va_up F 3 (upd (F 3) ((kRs σ).length) (nI mk))) 4 (upd (F 4) ((kRs σ).length) (nI mt))) 5 (upd (F 5) ((kRs σ).length) (1))) 6 (upd (F 6) (3 * ((kRs σ).length) + 0) (((kBu σ).getD 0 (0, 0)).1))) G ((kBu σ).length) ((kRs σ).length) ((kIs σ).length) (kMk σ) := by rw [eA42]; exact hM10.put 6 rfl _
          have glA42 : gL A A42 := by rw [eA42]; exact glA9.U (by decide)
          refine lv_aload_n hx hb d_MM_rule_91 rfl (lv_at hl 1 rfl) ?_
          refine g_get hx hb hts i_MM hown hK.1 hP (show A42 (20, 0) = some (h, .inr (5, [.ref (ad 0), .ref (ad 1), .int (nI ((kBu σ).length)), .ref (ad 3), .ref (ad 4), .ref (ad 5), .ref (ad 6), .ref (ad 7), .ref (ad 8), .ref (ad 9), .ref (ad 10), .int (nI ((kRs σ).length)), .ref (ad 12), .ref (ad 13), .ref (ad 14), .ref (ad 15), .ref (ad 16), .ref (ad 17), .ref (ad 18), .ref (ad 19), .ref (ad 20), .ref (ad 21), .int (nI ((kIs σ).length)), .int (nI (kMk σ) - 1)])) from hM43.1) rfl 7 (by decide) (hts _ k_450) (fun _ h9 => h9) rfl d_MM_rule_92 ?_
          refine lv_iconst (v := 3) hx hb d_MM_rule_95 (by decide) ?_
          refine lv_aload_n hx hb d_MM_rule_96 rfl (lv_at hl 1 rfl) ?_
          refine g_get hx hb hts i_MM hown hK.1 hP (show A42 (20, 0) = some (h, .inr (5, [.ref (ad 0), .ref (ad 1), .int (nI ((kBu σ).length)), .ref (ad 3), .ref (ad 4), .ref (ad 5), .ref (ad 6), .ref (ad 7), .ref (ad 8), .ref (ad 9), .ref (ad 10), .int (nI ((kRs σ).length)), .ref (ad 12), .ref (ad 13), .ref (ad 14), .ref (ad 15), .ref (ad 16), .ref (ad 17), .ref (ad 18), .ref (ad 19), .ref (ad 20), .ref (ad 21), .int (nI ((kIs σ).length)), .int (nI (kMk σ) - 1)])) from hM43.1) rfl 11 (by decide) (hts _ k_454) (fun _ h9 => h9) rfl d_MM_rule_97 ?_
          refine lv_imul hx hb d_MM_rule_100 ?_
          rw [mul3 _]
          refine lv_iload_n hx hb d_MM_rule_101 rfl (lv_at hl 0 rfl) ?_
          refine lv_iadd hx hb d_MM_rule_102 ?_
          rw [show nI (3 * ((kRs σ).length)) + 0 = nI (3 * ((kRs σ).length) + 0) from nI_add _ 0]
          refine lv_aload_n hx hb d_MM_rule_103 rfl (lv_at hl 1 rfl) ?_
          refine g_get hx hb hts i_MM hown hK.1 hP (show A42 (20, 0) = some (h, .inr (5, [.ref (ad 0), .ref (ad 1), .int (nI ((kBu σ).length)), .ref (ad 3), .ref (ad 4), .ref (ad 5), .ref (ad 6), .ref (ad 7), .ref (ad 8), .ref (ad 9), .ref (ad 10), .int (nI ((kRs σ).length)), .ref (ad 12), .ref (ad 13), .ref (ad 14), .ref (ad 15), .ref (ad 16), .ref (ad 17), .ref (ad 18), .ref (ad 19), .ref (ad 20), .ref (ad 21), .int (nI ((kIs σ).length)), .int (nI (kMk σ) - 1)])) from hM43.1) rfl 1 (by decide) (hts _ k_444) (fun _ h9 => h9) rfl d_MM_rule_104 ?_
          refine lv_iload_n hx hb d_MM_rule_107 rfl (lv_at hl 0 rfl) ?_
          refine g_iald (v := ((kBu σ).getD 0 (0, 0)).2) hx hb hK.1 hP 0 (show A42 (22, 0) = some (ad 1, .inl (cI, 3, .inl (F 1))) from hM43.2.1 1 rfl) rfl (by unfold vp_in; decide) (by rw [show (0 : Int32).toNatClampNeg = 0 by decide]; exact (hb0 0 (by omega)).2) d_MM_rule_108 ?_
          refine g_iast (k := 3 * ((kRs σ).length) + 0) hx hb hK.1 hP hS 0 (show A42 (28, 0) = some (ad 7, .inl (cI, 72, .inl (F 7))) from hM43.2.1 7 rfl) rfl (vp_in_nI (show 3 * ((kRs σ).length) + 0 < 72 by omega) (by omega)) (nI_clamp (show 3 * ((kRs σ).length) + 0 < 2 ^ 31 by omega)) d_MM_rule_109 (fun H locs hP hS => ?_)
          obtain ⟨A44, eA44⟩ : ∃ z, z = gU A42 (28, 0) (ad 7, .inl (cI, 72, .inl (upd (F 7) (3 * ((kRs σ).length) + 0) (((kBu σ).getD 0 (0, 0)).2)))) := ⟨_, rfl⟩
          replace hP : gP D classes b A44 H := by rw [eA44]; exact hP
          have hM45 : rMM cI cZ cL A44 h ad (va_up (va_up (va_up (va_up (va_up F 3 (upd (F 3) ((kRs σ).length) (nI mk))) 4 (upd (F 4) ((kRs σ).length) (nI mt))) 5 (upd (F 5) ((kRs σ).length) (1))) 6 (upd (F 6) (3 * ((kRs σ).length) + 0) (((kBu σ).getD 0 (0, 0)).1))) 7 (upd (F 7) (3 * ((kRs σ).length) + 0) (((kBu σ).getD 0 (0, 0)).2))) G ((kBu σ).length) ((kRs σ).length) ((kIs σ).length) (kMk σ) := by rw [eA44]; exact hM43.put 7 rfl _
          have glA44 : gL A A44 := by rw [eA44]; exact glA42.U (by decide)
          refine lv_iinc (v := 1) (lv' := [(3, .int 1), (0, .ref h), (1, .int (nI mk)), (2, .int (nI mt))]) hx hb d_MM_rule_110 hl (k := 0) rfl (by decide) (by decide) rfl (fun ls hl => ?_)
          refine lv_goto (tgt := 64) hx hb d_MM_rule_113 (by decide) ?_
          refine lv_iload_n hx hb d_MM_rule_64 rfl (lv_at hl 0 rfl) ?_
          refine lv_aload_n hx hb d_MM_rule_65 rfl (lv_at hl 1 rfl) ?_
          refine g_get hx hb hts i_MM hown hK.1 hP (show A44 (20, 0) = some (h, .inr (5, [.ref (ad 0), .ref (ad 1), .int (nI ((kBu σ).length)), .ref (ad 3), .ref (ad 4), .ref (ad 5), .ref (ad 6), .ref (ad 7), .ref (ad 8), .ref (ad 9), .ref (ad 10), .int (nI ((kRs σ).length)), .ref (ad 12), .ref (ad 13), .ref (ad 14), .ref (ad 15), .ref (ad 16), .ref (ad 17), .ref (ad 18), .ref (ad 19), .ref (ad 20), .ref (ad 21), .int (nI ((kIs σ).length)), .int (nI (kMk σ) - 1)])) from hM45.1) rfl 2 (by decide) (hts _ k_445) (fun _ h9 => h9) rfl d_MM_rule_66 ?_
          refine lv_icmp_ge (tgt := 116) hx hb d_MM_rule_69 (by decide) (fun h9 => absurd h9 (nI_ge (show 1 < (kBu σ).length by omega) (by omega))) (fun _ => ?_)
          refine lv_aload_n hx hb d_MM_rule_72 rfl (lv_at hl 1 rfl) ?_
          refine g_get hx hb hts i_MM hown hK.1 hP (show A44 (20, 0) = some (h, .inr (5, [.ref (ad 0), .ref (ad 1), .int (nI ((kBu σ).length)), .ref (ad 3), .ref (ad 4), .ref (ad 5), .ref (ad 6), .ref (ad 7), .ref (ad 8), .ref (ad 9), .ref (ad 10), .int (nI ((kRs σ).length)), .ref (ad 12), .ref (ad 13), .ref (ad 14), .ref (ad 15), .ref (ad 16), .ref (ad 17), .ref (ad 18), .ref (ad 19), .ref (ad 20), .ref (ad 21), .int (nI ((kIs σ).length)), .int (nI (kMk σ) - 1)])) from hM45.1) rfl 6 (by decide) (hts _ k_449) (fun _ h9 => h9) rfl d_MM_rule_73 ?_
          refine lv_iconst (v := 3) hx hb d_MM_rule_76 (by decide) ?_
          refine lv_aload_n hx hb d_MM_rule_77 rfl (lv_at hl 1 rfl) ?_
          refine g_get hx hb hts i_MM hown hK.1 hP (show A44 (20, 0) = some (h, .inr (5, [.ref (ad 0), .ref (ad 1), .int (nI ((kBu σ).length)), .ref (ad 3), .ref (ad 4), .ref (ad 5), .ref (ad 6), .ref (ad 7), .ref (ad 8), .ref (ad 9), .ref (ad 10), .int (nI ((kRs σ).length)), .ref (ad 12), .ref (ad 13), .ref (ad 14), .ref (ad 15), .ref (ad 16), .ref (ad 17), .ref (ad 18), .ref (ad 19), .ref (ad 20), .ref (ad 21), .int (nI ((kIs σ).length)), .int (nI (kMk σ) - 1)])) from hM45.1) rfl 11 (by decide) (hts _ k_454) (fun _ h9 => h9) rfl d_MM_rule_78 ?_
          refine lv_imul hx hb d_MM_rule_81 ?_
          rw [mul3 _]
          refine lv_iload_n hx hb d_MM_rule_82 rfl (lv_at hl 0 rfl) ?_
          refine lv_iadd hx hb d_MM_rule_83 ?_
          rw [nI_1 _]
          refine lv_aload_n hx hb d_MM_rule_84 rfl (lv_at hl 1 rfl) ?_
          refine g_get hx hb hts i_MM hown hK.1 hP (show A44 (20, 0) = some (h, .inr (5, [.ref (ad 0), .ref (ad 1), .int (nI ((kBu σ).length)), .ref (ad 3), .ref (ad 4), .ref (ad 5), .ref (ad 6), .ref (ad 7), .ref (ad 8), .ref (ad 9), .ref (ad 10), .int (nI ((kRs σ).length)), .ref (ad 12), .ref (ad 13), .ref (ad 14), .ref (ad 15), .ref (ad 16), .ref (ad 17), .ref (ad 18), .ref (ad 19), .ref (ad 20), .ref (ad 21), .int (nI ((kIs σ).length)), .int (nI (kMk σ) - 1)])) from hM45.1) rfl 0 (by decide) (hts _ k_443) (fun _ h9 => h9) rfl d_MM_rule_85 ?_
          refine lv_iload_n hx hb d_MM_rule_88 rfl (lv_at hl 0 rfl) ?_
          refine g_iald (v := ((kBu σ).getD 1 (0, 0)).1) hx hb hK.1 hP 0 (show A44 (21, 0) = some (ad 0, .inl (cI, 3, .inl (F 0))) from hM45.2.1 0 rfl) rfl (by unfold vp_in; decide) (by rw [show (1 : Int32).toNatClampNeg = 1 by decide]; exact (hb0 1 (by omega)).1) d_MM_rule_89 ?_
          refine g_iast (k := 3 * ((kRs σ).length) + 1) hx hb hK.1 hP hS 0 (show A44 (27, 0) = some (ad 6, .inl (cI, 72, .inl (upd (F 6) (3 * ((kRs σ).length) + 0) (((kBu σ).getD 0 (0, 0)).1)))) from hM45.2.1 6 rfl) rfl (vp_in_nI (show 3 * ((kRs σ).length) + 1 < 72 by omega) (by omega)) (nI_clamp (show 3 * ((kRs σ).length) + 1 < 2 ^ 31 by omega)) d_MM_rule_90 (fun H locs hP hS => ?_)
          obtain ⟨A47, eA47⟩ : ∃ z, z = gU A44 (27, 0) (ad 6, .inl (cI, 72, .inl (upd (upd (F 6) (3 * ((kRs σ).length) + 0) (((kBu σ).getD 0 (0, 0)).1)) (3 * ((kRs σ).length) + 1) (((kBu σ).getD 1 (0, 0)).1)))) := ⟨_, rfl⟩
          replace hP : gP D classes b A47 H := by rw [eA47]; exact hP
          have hM48 : rMM cI cZ cL A47 h ad (va_up (va_up (va_up (va_up (va_up (va_up F 3 (upd (F 3) ((kRs σ).length) (nI mk))) 4 (upd (F 4) ((kRs σ).length) (nI mt))) 5 (upd (F 5) ((kRs σ).length) (1))) 6 (upd (F 6) (3 * ((kRs σ).length) + 0) (((kBu σ).getD 0 (0, 0)).1))) 7 (upd (F 7) (3 * ((kRs σ).length) + 0) (((kBu σ).getD 0 (0, 0)).2))) 6 (upd (upd (F 6) (3 * ((kRs σ).length) + 0) (((kBu σ).getD 0 (0, 0)).1)) (3 * ((kRs σ).length) + 1) (((kBu σ).getD 1 (0, 0)).1))) G ((kBu σ).length) ((kRs σ).length) ((kIs σ).length) (kMk σ) := by rw [eA47]; exact hM45.put 6 rfl _
          have glA47 : gL A A47 := by rw [eA47]; exact glA44.U (by decide)
          refine lv_aload_n hx hb d_MM_rule_91 rfl (lv_at hl 1 rfl) ?_
          refine g_get hx hb hts i_MM hown hK.1 hP (show A47 (20, 0) = some (h, .inr (5, [.ref (ad 0), .ref (ad 1), .int (nI ((kBu σ).length)), .ref (ad 3), .ref (ad 4), .ref (ad 5), .ref (ad 6), .ref (ad 7), .ref (ad 8), .ref (ad 9), .ref (ad 10), .int (nI ((kRs σ).length)), .ref (ad 12), .ref (ad 13), .ref (ad 14), .ref (ad 15), .ref (ad 16), .ref (ad 17), .ref (ad 18), .ref (ad 19), .ref (ad 20), .ref (ad 21), .int (nI ((kIs σ).length)), .int (nI (kMk σ) - 1)])) from hM48.1) rfl 7 (by decide) (hts _ k_450) (fun _ h9 => h9) rfl d_MM_rule_92 ?_
          refine lv_iconst (v := 3) hx hb d_MM_rule_95 (by decide) ?_
          refine lv_aload_n hx hb d_MM_rule_96 rfl (lv_at hl 1 rfl) ?_
          refine g_get hx hb hts i_MM hown hK.1 hP (show A47 (20, 0) = some (h, .inr (5, [.ref (ad 0), .ref (ad 1), .int (nI ((kBu σ).length)), .ref (ad 3), .ref (ad 4), .ref (ad 5), .ref (ad 6), .ref (ad 7), .ref (ad 8), .ref (ad 9), .ref (ad 10), .int (nI ((kRs σ).length)), .ref (ad 12), .ref (ad 13), .ref (ad 14), .ref (ad 15), .ref (ad 16), .ref (ad 17), .ref (ad 18), .ref (ad 19), .ref (ad 20), .ref (ad 21), .int (nI ((kIs σ).length)), .int (nI (kMk σ) - 1)])) from hM48.1) rfl 11 (by decide) (hts _ k_454) (fun _ h9 => h9) rfl d_MM_rule_97 ?_
          refine lv_imul hx hb d_MM_rule_100 ?_
          rw [mul3 _]
          refine lv_iload_n hx hb d_MM_rule_101 rfl (lv_at hl 0 rfl) ?_
          refine lv_iadd hx hb d_MM_rule_102 ?_
          rw [nI_1 _]
          refine lv_aload_n hx hb d_MM_rule_103 rfl (lv_at hl 1 rfl) ?_
          refine g_get hx hb hts i_MM hown hK.1 hP (show A47 (20, 0) = some (h, .inr (5, [.ref (ad 0), .ref (ad 1), .int (nI ((kBu σ).length)), .ref (ad 3), .ref (ad 4), .ref (ad 5), .ref (ad 6), .ref (ad 7), .ref (ad 8), .ref (ad 9), .ref (ad 10), .int (nI ((kRs σ).length)), .ref (ad 12), .ref (ad 13), .ref (ad 14), .ref (ad 15), .ref (ad 16), .ref (ad 17), .ref (ad 18), .ref (ad 19), .ref (ad 20), .ref (ad 21), .int (nI ((kIs σ).length)), .int (nI (kMk σ) - 1)])) from hM48.1) rfl 1 (by decide) (hts _ k_444) (fun _ h9 => h9) rfl d_MM_rule_104 ?_
          refine lv_iload_n hx hb d_MM_rule_107 rfl (lv_at hl 0 rfl) ?_
          refine g_iald (v := ((kBu σ).getD 1 (0, 0)).2) hx hb hK.1 hP 0 (show A47 (22, 0) = some (ad 1, .inl (cI, 3, .inl (F 1))) from hM48.2.1 1 rfl) rfl (by unfold vp_in; decide) (by rw [show (1 : Int32).toNatClampNeg = 1 by decide]; exact (hb0 1 (by omega)).2) d_MM_rule_108 ?_
          refine g_iast (k := 3 * ((kRs σ).length) + 1) hx hb hK.1 hP hS 0 (show A47 (28, 0) = some (ad 7, .inl (cI, 72, .inl (upd (F 7) (3 * ((kRs σ).length) + 0) (((kBu σ).getD 0 (0, 0)).2)))) from hM48.2.1 7 rfl) rfl (vp_in_nI (show 3 * ((kRs σ).length) + 1 < 72 by omega) (by omega)) (nI_clamp (show 3 * ((kRs σ).length) + 1 < 2 ^ 31 by omega)) d_MM_rule_109 (fun H locs hP hS => ?_)
          obtain ⟨A49, eA49⟩ : ∃ z, z = gU A47 (28, 0) (ad 7, .inl (cI, 72, .inl (upd (upd (F 7) (3 * ((kRs σ).length) + 0) (((kBu σ).getD 0 (0, 0)).2)) (3 * ((kRs σ).length) + 1) (((kBu σ).getD 1 (0, 0)).2)))) := ⟨_, rfl⟩
          replace hP : gP D classes b A49 H := by rw [eA49]; exact hP
          have hM50 : rMM cI cZ cL A49 h ad (va_up (va_up (va_up (va_up (va_up (va_up (va_up F 3 (upd (F 3) ((kRs σ).length) (nI mk))) 4 (upd (F 4) ((kRs σ).length) (nI mt))) 5 (upd (F 5) ((kRs σ).length) (1))) 6 (upd (F 6) (3 * ((kRs σ).length) + 0) (((kBu σ).getD 0 (0, 0)).1))) 7 (upd (F 7) (3 * ((kRs σ).length) + 0) (((kBu σ).getD 0 (0, 0)).2))) 6 (upd (upd (F 6) (3 * ((kRs σ).length) + 0) (((kBu σ).getD 0 (0, 0)).1)) (3 * ((kRs σ).length) + 1) (((kBu σ).getD 1 (0, 0)).1))) 7 (upd (upd (F 7) (3 * ((kRs σ).length) + 0) (((kBu σ).getD 0 (0, 0)).2)) (3 * ((kRs σ).length) + 1) (((kBu σ).getD 1 (0, 0)).2))) G ((kBu σ).length) ((kRs σ).length) ((kIs σ).length) (kMk σ) := by rw [eA49]; exact hM48.put 7 rfl _
          have glA49 : gL A A49 := by rw [eA49]; exact glA47.U (by decide)
          refine lv_iinc (v := 2) (lv' := [(3, .int 2), (0, .ref h), (1, .int (nI mk)), (2, .int (nI mt))]) hx hb d_MM_rule_110 hl (k := 0) rfl (by decide) (by decide) rfl (fun ls hl => ?_)
          refine lv_goto (tgt := 64) hx hb d_MM_rule_113 (by decide) ?_
          refine lv_iload_n hx hb d_MM_rule_64 rfl (lv_at hl 0 rfl) ?_
          refine lv_aload_n hx hb d_MM_rule_65 rfl (lv_at hl 1 rfl) ?_
          refine g_get hx hb hts i_MM hown hK.1 hP (show A49 (20, 0) = some (h, .inr (5, [.ref (ad 0), .ref (ad 1), .int (nI ((kBu σ).length)), .ref (ad 3), .ref (ad 4), .ref (ad 5), .ref (ad 6), .ref (ad 7), .ref (ad 8), .ref (ad 9), .ref (ad 10), .int (nI ((kRs σ).length)), .ref (ad 12), .ref (ad 13), .ref (ad 14), .ref (ad 15), .ref (ad 16), .ref (ad 17), .ref (ad 18), .ref (ad 19), .ref (ad 20), .ref (ad 21), .int (nI ((kIs σ).length)), .int (nI (kMk σ) - 1)])) from hM50.1) rfl 2 (by decide) (hts _ k_445) (fun _ h9 => h9) rfl d_MM_rule_66 ?_
          refine lv_icmp_ge (tgt := 116) hx hb d_MM_rule_69 (by decide) (fun h9 => absurd h9 (nI_ge (show 2 < (kBu σ).length by omega) (by omega))) (fun _ => ?_)
          refine lv_aload_n hx hb d_MM_rule_72 rfl (lv_at hl 1 rfl) ?_
          refine g_get hx hb hts i_MM hown hK.1 hP (show A49 (20, 0) = some (h, .inr (5, [.ref (ad 0), .ref (ad 1), .int (nI ((kBu σ).length)), .ref (ad 3), .ref (ad 4), .ref (ad 5), .ref (ad 6), .ref (ad 7), .ref (ad 8), .ref (ad 9), .ref (ad 10), .int (nI ((kRs σ).length)), .ref (ad 12), .ref (ad 13), .ref (ad 14), .ref (ad 15), .ref (ad 16), .ref (ad 17), .ref (ad 18), .ref (ad 19), .ref (ad 20), .ref (ad 21), .int (nI ((kIs σ).length)), .int (nI (kMk σ) - 1)])) from hM50.1) rfl 6 (by decide) (hts _ k_449) (fun _ h9 => h9) rfl d_MM_rule_73 ?_
          refine lv_iconst (v := 3) hx hb d_MM_rule_76 (by decide) ?_
          refine lv_aload_n hx hb d_MM_rule_77 rfl (lv_at hl 1 rfl) ?_
          refine g_get hx hb hts i_MM hown hK.1 hP (show A49 (20, 0) = some (h, .inr (5, [.ref (ad 0), .ref (ad 1), .int (nI ((kBu σ).length)), .ref (ad 3), .ref (ad 4), .ref (ad 5), .ref (ad 6), .ref (ad 7), .ref (ad 8), .ref (ad 9), .ref (ad 10), .int (nI ((kRs σ).length)), .ref (ad 12), .ref (ad 13), .ref (ad 14), .ref (ad 15), .ref (ad 16), .ref (ad 17), .ref (ad 18), .ref (ad 19), .ref (ad 20), .ref (ad 21), .int (nI ((kIs σ).length)), .int (nI (kMk σ) - 1)])) from hM50.1) rfl 11 (by decide) (hts _ k_454) (fun _ h9 => h9) rfl d_MM_rule_78 ?_
          refine lv_imul hx hb d_MM_rule_81 ?_
          rw [mul3 _]
          refine lv_iload_n hx hb d_MM_rule_82 rfl (lv_at hl 0 rfl) ?_
          refine lv_iadd hx hb d_MM_rule_83 ?_
          rw [add2' _]
          refine lv_aload_n hx hb d_MM_rule_84 rfl (lv_at hl 1 rfl) ?_
          refine g_get hx hb hts i_MM hown hK.1 hP (show A49 (20, 0) = some (h, .inr (5, [.ref (ad 0), .ref (ad 1), .int (nI ((kBu σ).length)), .ref (ad 3), .ref (ad 4), .ref (ad 5), .ref (ad 6), .ref (ad 7), .ref (ad 8), .ref (ad 9), .ref (ad 10), .int (nI ((kRs σ).length)), .ref (ad 12), .ref (ad 13), .ref (ad 14), .ref (ad 15), .ref (ad 16), .ref (ad 17), .ref (ad 18), .ref (ad 19), .ref (ad 20), .ref (ad 21), .int (nI ((kIs σ).length)), .int (nI (kMk σ) - 1)])) from hM50.1) rfl 0 (by decide) (hts _ k_443) (fun _ h9 => h9) rfl d_MM_rule_85 ?_
          refine lv_iload_n hx hb d_MM_rule_88 rfl (lv_at hl 0 rfl) ?_
          refine g_iald (v := ((kBu σ).getD 2 (0, 0)).1) hx hb hK.1 hP 0 (show A49 (21, 0) = some (ad 0, .inl (cI, 3, .inl (F 0))) from hM50.2.1 0 rfl) rfl (by unfold vp_in; decide) (by rw [show (2 : Int32).toNatClampNeg = 2 by decide]; exact (hb0 2 (by omega)).1) d_MM_rule_89 ?_
          refine g_iast (k := 3 * ((kRs σ).length) + 2) hx hb hK.1 hP hS 0 (show A49 (27, 0) = some (ad 6, .inl (cI, 72, .inl (upd (upd (F 6) (3 * ((kRs σ).length) + 0) (((kBu σ).getD 0 (0, 0)).1)) (3 * ((kRs σ).length) + 1) (((kBu σ).getD 1 (0, 0)).1)))) from hM50.2.1 6 rfl) rfl (vp_in_nI (show 3 * ((kRs σ).length) + 2 < 72 by omega) (by omega)) (nI_clamp (show 3 * ((kRs σ).length) + 2 < 2 ^ 31 by omega)) d_MM_rule_90 (fun H locs hP hS => ?_)
          obtain ⟨A52, eA52⟩ : ∃ z, z = gU A49 (27, 0) (ad 6, .inl (cI, 72, .inl (upd (upd (upd (F 6) (3 * ((kRs σ).length) + 0) (((kBu σ).getD 0 (0, 0)).1)) (3 * ((kRs σ).length) + 1) (((kBu σ).getD 1 (0, 0)).1)) (3 * ((kRs σ).length) + 2) (((kBu σ).getD 2 (0, 0)).1)))) := ⟨_, rfl⟩
          replace hP : gP D classes b A52 H := by rw [eA52]; exact hP
          have hM53 : rMM cI cZ cL A52 h ad (va_up (va_up (va_up (va_up (va_up (va_up (va_up (va_up F 3 (upd (F 3) ((kRs σ).length) (nI mk))) 4 (upd (F 4) ((kRs σ).length) (nI mt))) 5 (upd (F 5) ((kRs σ).length) (1))) 6 (upd (F 6) (3 * ((kRs σ).length) + 0) (((kBu σ).getD 0 (0, 0)).1))) 7 (upd (F 7) (3 * ((kRs σ).length) + 0) (((kBu σ).getD 0 (0, 0)).2))) 6 (upd (upd (F 6) (3 * ((kRs σ).length) + 0) (((kBu σ).getD 0 (0, 0)).1)) (3 * ((kRs σ).length) + 1) (((kBu σ).getD 1 (0, 0)).1))) 7 (upd (upd (F 7) (3 * ((kRs σ).length) + 0) (((kBu σ).getD 0 (0, 0)).2)) (3 * ((kRs σ).length) + 1) (((kBu σ).getD 1 (0, 0)).2))) 6 (upd (upd (upd (F 6) (3 * ((kRs σ).length) + 0) (((kBu σ).getD 0 (0, 0)).1)) (3 * ((kRs σ).length) + 1) (((kBu σ).getD 1 (0, 0)).1)) (3 * ((kRs σ).length) + 2) (((kBu σ).getD 2 (0, 0)).1))) G ((kBu σ).length) ((kRs σ).length) ((kIs σ).length) (kMk σ) := by rw [eA52]; exact hM50.put 6 rfl _
          have glA52 : gL A A52 := by rw [eA52]; exact glA49.U (by decide)
          refine lv_aload_n hx hb d_MM_rule_91 rfl (lv_at hl 1 rfl) ?_
          refine g_get hx hb hts i_MM hown hK.1 hP (show A52 (20, 0) = some (h, .inr (5, [.ref (ad 0), .ref (ad 1), .int (nI ((kBu σ).length)), .ref (ad 3), .ref (ad 4), .ref (ad 5), .ref (ad 6), .ref (ad 7), .ref (ad 8), .ref (ad 9), .ref (ad 10), .int (nI ((kRs σ).length)), .ref (ad 12), .ref (ad 13), .ref (ad 14), .ref (ad 15), .ref (ad 16), .ref (ad 17), .ref (ad 18), .ref (ad 19), .ref (ad 20), .ref (ad 21), .int (nI ((kIs σ).length)), .int (nI (kMk σ) - 1)])) from hM53.1) rfl 7 (by decide) (hts _ k_450) (fun _ h9 => h9) rfl d_MM_rule_92 ?_
          refine lv_iconst (v := 3) hx hb d_MM_rule_95 (by decide) ?_
          refine lv_aload_n hx hb d_MM_rule_96 rfl (lv_at hl 1 rfl) ?_
          refine g_get hx hb hts i_MM hown hK.1 hP (show A52 (20, 0) = some (h, .inr (5, [.ref (ad 0), .ref (ad 1), .int (nI ((kBu σ).length)), .ref (ad 3), .ref (ad 4), .ref (ad 5), .ref (ad 6), .ref (ad 7), .ref (ad 8), .ref (ad 9), .ref (ad 10), .int (nI ((kRs σ).length)), .ref (ad 12), .ref (ad 13), .ref (ad 14), .ref (ad 15), .ref (ad 16), .ref (ad 17), .ref (ad 18), .ref (ad 19), .ref (ad 20), .ref (ad 21), .int (nI ((kIs σ).length)), .int (nI (kMk σ) - 1)])) from hM53.1) rfl 11 (by decide) (hts _ k_454) (fun _ h9 => h9) rfl d_MM_rule_97 ?_
          refine lv_imul hx hb d_MM_rule_100 ?_
          rw [mul3 _]
          refine lv_iload_n hx hb d_MM_rule_101 rfl (lv_at hl 0 rfl) ?_
          refine lv_iadd hx hb d_MM_rule_102 ?_
          rw [add2' _]
          refine lv_aload_n hx hb d_MM_rule_103 rfl (lv_at hl 1 rfl) ?_
          refine g_get hx hb hts i_MM hown hK.1 hP (show A52 (20, 0) = some (h, .inr (5, [.ref (ad 0), .ref (ad 1), .int (nI ((kBu σ).length)), .ref (ad 3), .ref (ad 4), .ref (ad 5), .ref (ad 6), .ref (ad 7), .ref (ad 8), .ref (ad 9), .ref (ad 10), .int (nI ((kRs σ).length)), .ref (ad 12), .ref (ad 13), .ref (ad 14), .ref (ad 15), .ref (ad 16), .ref (ad 17), .ref (ad 18), .ref (ad 19), .ref (ad 20), .ref (ad 21), .int (nI ((kIs σ).length)), .int (nI (kMk σ) - 1)])) from hM53.1) rfl 1 (by decide) (hts _ k_444) (fun _ h9 => h9) rfl d_MM_rule_104 ?_
          refine lv_iload_n hx hb d_MM_rule_107 rfl (lv_at hl 0 rfl) ?_
          refine g_iald (v := ((kBu σ).getD 2 (0, 0)).2) hx hb hK.1 hP 0 (show A52 (22, 0) = some (ad 1, .inl (cI, 3, .inl (F 1))) from hM53.2.1 1 rfl) rfl (by unfold vp_in; decide) (by rw [show (2 : Int32).toNatClampNeg = 2 by decide]; exact (hb0 2 (by omega)).2) d_MM_rule_108 ?_
          refine g_iast (k := 3 * ((kRs σ).length) + 2) hx hb hK.1 hP hS 0 (show A52 (28, 0) = some (ad 7, .inl (cI, 72, .inl (upd (upd (F 7) (3 * ((kRs σ).length) + 0) (((kBu σ).getD 0 (0, 0)).2)) (3 * ((kRs σ).length) + 1) (((kBu σ).getD 1 (0, 0)).2)))) from hM53.2.1 7 rfl) rfl (vp_in_nI (show 3 * ((kRs σ).length) + 2 < 72 by omega) (by omega)) (nI_clamp (show 3 * ((kRs σ).length) + 2 < 2 ^ 31 by omega)) d_MM_rule_109 (fun H locs hP hS => ?_)
          obtain ⟨A54, eA54⟩ : ∃ z, z = gU A52 (28, 0) (ad 7, .inl (cI, 72, .inl (upd (upd (upd (F 7) (3 * ((kRs σ).length) + 0) (((kBu σ).getD 0 (0, 0)).2)) (3 * ((kRs σ).length) + 1) (((kBu σ).getD 1 (0, 0)).2)) (3 * ((kRs σ).length) + 2) (((kBu σ).getD 2 (0, 0)).2)))) := ⟨_, rfl⟩
          replace hP : gP D classes b A54 H := by rw [eA54]; exact hP
          have hM55 : rMM cI cZ cL A54 h ad (va_up (va_up (va_up (va_up (va_up (va_up (va_up (va_up (va_up F 3 (upd (F 3) ((kRs σ).length) (nI mk))) 4 (upd (F 4) ((kRs σ).length) (nI mt))) 5 (upd (F 5) ((kRs σ).length) (1))) 6 (upd (F 6) (3 * ((kRs σ).length) + 0) (((kBu σ).getD 0 (0, 0)).1))) 7 (upd (F 7) (3 * ((kRs σ).length) + 0) (((kBu σ).getD 0 (0, 0)).2))) 6 (upd (upd (F 6) (3 * ((kRs σ).length) + 0) (((kBu σ).getD 0 (0, 0)).1)) (3 * ((kRs σ).length) + 1) (((kBu σ).getD 1 (0, 0)).1))) 7 (upd (upd (F 7) (3 * ((kRs σ).length) + 0) (((kBu σ).getD 0 (0, 0)).2)) (3 * ((kRs σ).length) + 1) (((kBu σ).getD 1 (0, 0)).2))) 6 (upd (upd (upd (F 6) (3 * ((kRs σ).length) + 0) (((kBu σ).getD 0 (0, 0)).1)) (3 * ((kRs σ).length) + 1) (((kBu σ).getD 1 (0, 0)).1)) (3 * ((kRs σ).length) + 2) (((kBu σ).getD 2 (0, 0)).1))) 7 (upd (upd (upd (F 7) (3 * ((kRs σ).length) + 0) (((kBu σ).getD 0 (0, 0)).2)) (3 * ((kRs σ).length) + 1) (((kBu σ).getD 1 (0, 0)).2)) (3 * ((kRs σ).length) + 2) (((kBu σ).getD 2 (0, 0)).2))) G ((kBu σ).length) ((kRs σ).length) ((kIs σ).length) (kMk σ) := by rw [eA54]; exact hM53.put 7 rfl _
          have glA54 : gL A A54 := by rw [eA54]; exact glA52.U (by decide)
          refine lv_iinc (v := 3) (lv' := [(3, .int 3), (0, .ref h), (1, .int (nI mk)), (2, .int (nI mt))]) hx hb d_MM_rule_110 hl (k := 0) rfl (by decide) (by decide) rfl (fun ls hl => ?_)
          refine lv_goto (tgt := 64) hx hb d_MM_rule_113 (by decide) ?_
          refine lv_iload_n hx hb d_MM_rule_64 rfl (lv_at hl 0 rfl) ?_
          refine lv_aload_n hx hb d_MM_rule_65 rfl (lv_at hl 1 rfl) ?_
          refine g_get hx hb hts i_MM hown hK.1 hP (show A54 (20, 0) = some (h, .inr (5, [.ref (ad 0), .ref (ad 1), .int (nI ((kBu σ).length)), .ref (ad 3), .ref (ad 4), .ref (ad 5), .ref (ad 6), .ref (ad 7), .ref (ad 8), .ref (ad 9), .ref (ad 10), .int (nI ((kRs σ).length)), .ref (ad 12), .ref (ad 13), .ref (ad 14), .ref (ad 15), .ref (ad 16), .ref (ad 17), .ref (ad 18), .ref (ad 19), .ref (ad 20), .ref (ad 21), .int (nI ((kIs σ).length)), .int (nI (kMk σ) - 1)])) from hM55.1) rfl 2 (by decide) (hts _ k_445) (fun _ h9 => h9) rfl d_MM_rule_66 ?_
          refine lv_icmp_ge (tgt := 116) hx hb d_MM_rule_69 (by decide) (fun _ => ?_) (fun h9 => absurd (nI_le (show (kBu σ).length ≤ 3 by omega) (by omega)) h9)
          refine lv_aload_n hx hb d_MM_rule_116 rfl (lv_at hl 1 rfl) ?_
          refine lv_iconst (v := 0) hx hb d_MM_rule_117 (by decide) ?_
          refine g_put (ty := .int) (v := .int 0) hx hb hts i_MM t_MM t_MM_ok n_MM hown hK.1 hP hS (show A54 (20, 0) = some (h, .inr (5, [.ref (ad 0), .ref (ad 1), .int (nI ((kBu σ).length)), .ref (ad 3), .ref (ad 4), .ref (ad 5), .ref (ad 6), .ref (ad 7), .ref (ad 8), .ref (ad 9), .ref (ad 10), .int (nI ((kRs σ).length)), .ref (ad 12), .ref (ad 13), .ref (ad 14), .ref (ad 15), .ref (ad 16), .ref (ad 17), .ref (ad 18), .ref (ad 19), .ref (ad 20), .ref (ad 21), .int (nI ((kIs σ).length)), .int (nI (kMk σ) - 1)])) from hM55.1) rfl 2 (by decide) (hts _ k_445) (fun _ h9 => h9) rfl (by decide +kernel) rfl rfl (Nat.le_of_ble_eq_true rfl) d_MM_rule_118 (fun H locs hP hS => ?_)
          obtain ⟨A57, eA57⟩ : ∃ z, z = gU A54 (20, 0) (h, .inr (5, [.ref (ad 0), .ref (ad 1), .int 0, .ref (ad 3), .ref (ad 4), .ref (ad 5), .ref (ad 6), .ref (ad 7), .ref (ad 8), .ref (ad 9), .ref (ad 10), .int (nI ((kRs σ).length)), .ref (ad 12), .ref (ad 13), .ref (ad 14), .ref (ad 15), .ref (ad 16), .ref (ad 17), .ref (ad 18), .ref (ad 19), .ref (ad 20), .ref (ad 21), .int (nI ((kIs σ).length)), .int (nI (kMk σ) - 1)])) := ⟨_, rfl⟩
          replace hP : gP D classes b A57 H := by rw [eA57]; exact hP
          have hM58 : rMM cI cZ cL A57 h ad (va_up (va_up (va_up (va_up (va_up (va_up (va_up (va_up (va_up F 3 (upd (F 3) ((kRs σ).length) (nI mk))) 4 (upd (F 4) ((kRs σ).length) (nI mt))) 5 (upd (F 5) ((kRs σ).length) (1))) 6 (upd (F 6) (3 * ((kRs σ).length) + 0) (((kBu σ).getD 0 (0, 0)).1))) 7 (upd (F 7) (3 * ((kRs σ).length) + 0) (((kBu σ).getD 0 (0, 0)).2))) 6 (upd (upd (F 6) (3 * ((kRs σ).length) + 0) (((kBu σ).getD 0 (0, 0)).1)) (3 * ((kRs σ).length) + 1) (((kBu σ).getD 1 (0, 0)).1))) 7 (upd (upd (F 7) (3 * ((kRs σ).length) + 0) (((kBu σ).getD 0 (0, 0)).2)) (3 * ((kRs σ).length) + 1) (((kBu σ).getD 1 (0, 0)).2))) 6 (upd (upd (upd (F 6) (3 * ((kRs σ).length) + 0) (((kBu σ).getD 0 (0, 0)).1)) (3 * ((kRs σ).length) + 1) (((kBu σ).getD 1 (0, 0)).1)) (3 * ((kRs σ).length) + 2) (((kBu σ).getD 2 (0, 0)).1))) 7 (upd (upd (upd (F 7) (3 * ((kRs σ).length) + 0) (((kBu σ).getD 0 (0, 0)).2)) (3 * ((kRs σ).length) + 1) (((kBu σ).getD 1 (0, 0)).2)) (3 * ((kRs σ).length) + 2) (((kBu σ).getD 2 (0, 0)).2))) G 0 ((kRs σ).length) ((kIs σ).length) ((kMk σ)) := by rw [eA57]; exact hM55.obj
          have glA57 : gL A A57 := by rw [eA57]; exact glA54.U (by decide)
          refine lv_aload_n hx hb d_MM_rule_121 rfl (lv_at hl 1 rfl) ?_
          refine lv_dup hx hb d_MM_rule_122 rfl ?_
          refine g_get hx hb hts i_MM hown hK.1 hP (show A57 (20, 0) = some (h, .inr (5, [.ref (ad 0), .ref (ad 1), .int (nI 0), .ref (ad 3), .ref (ad 4), .ref (ad 5), .ref (ad 6), .ref (ad 7), .ref (ad 8), .ref (ad 9), .ref (ad 10), .int (nI ((kRs σ).length)), .ref (ad 12), .ref (ad 13), .ref (ad 14), .ref (ad 15), .ref (ad 16), .ref (ad 17), .ref (ad 18), .ref (ad 19), .ref (ad 20), .ref (ad 21), .int (nI ((kIs σ).length)), .int (nI ((kMk σ)) - 1)])) from hM58.1) rfl 11 (by decide) (hts _ k_454) (fun _ h9 => h9) rfl d_MM_rule_123 ?_
          refine lv_iconst (v := 1) hx hb d_MM_rule_126 (by decide) ?_
          refine lv_iadd hx hb d_MM_rule_127 ?_
          rw [nI_1 _]
          refine g_put (ty := .int) (v := .int (nI ((kRs σ).length + 1))) hx hb hts i_MM t_MM t_MM_ok n_MM hown hK.1 hP hS (show A57 (20, 0) = some (h, .inr (5, [.ref (ad 0), .ref (ad 1), .int (nI 0), .ref (ad 3), .ref (ad 4), .ref (ad 5), .ref (ad 6), .ref (ad 7), .ref (ad 8), .ref (ad 9), .ref (ad 10), .int (nI ((kRs σ).length)), .ref (ad 12), .ref (ad 13), .ref (ad 14), .ref (ad 15), .ref (ad 16), .ref (ad 17), .ref (ad 18), .ref (ad 19), .ref (ad 20), .ref (ad 21), .int (nI ((kIs σ).length)), .int (nI ((kMk σ)) - 1)])) from hM58.1) rfl 11 (by decide) (hts _ k_454) (fun _ h9 => h9) rfl (by decide +kernel) rfl rfl (Nat.le_of_ble_eq_true rfl) d_MM_rule_128 (fun H locs hP hS => ?_)
          obtain ⟨A59, eA59⟩ : ∃ z, z = gU A57 (20, 0) (h, .inr (5, [.ref (ad 0), .ref (ad 1), .int (nI 0), .ref (ad 3), .ref (ad 4), .ref (ad 5), .ref (ad 6), .ref (ad 7), .ref (ad 8), .ref (ad 9), .ref (ad 10), .int (nI ((kRs σ).length + 1)), .ref (ad 12), .ref (ad 13), .ref (ad 14), .ref (ad 15), .ref (ad 16), .ref (ad 17), .ref (ad 18), .ref (ad 19), .ref (ad 20), .ref (ad 21), .int (nI ((kIs σ).length)), .int (nI ((kMk σ)) - 1)])) := ⟨_, rfl⟩
          replace hP : gP D classes b A59 H := by rw [eA59]; exact hP
          have hM60 : rMM cI cZ cL A59 h ad (va_up (va_up (va_up (va_up (va_up (va_up (va_up (va_up (va_up F 3 (upd (F 3) ((kRs σ).length) (nI mk))) 4 (upd (F 4) ((kRs σ).length) (nI mt))) 5 (upd (F 5) ((kRs σ).length) (1))) 6 (upd (F 6) (3 * ((kRs σ).length) + 0) (((kBu σ).getD 0 (0, 0)).1))) 7 (upd (F 7) (3 * ((kRs σ).length) + 0) (((kBu σ).getD 0 (0, 0)).2))) 6 (upd (upd (F 6) (3 * ((kRs σ).length) + 0) (((kBu σ).getD 0 (0, 0)).1)) (3 * ((kRs σ).length) + 1) (((kBu σ).getD 1 (0, 0)).1))) 7 (upd (upd (F 7) (3 * ((kRs σ).length) + 0) (((kBu σ).getD 0 (0, 0)).2)) (3 * ((kRs σ).length) + 1) (((kBu σ).getD 1 (0, 0)).2))) 6 (upd (upd (upd (F 6) (3 * ((kRs σ).length) + 0) (((kBu σ).getD 0 (0, 0)).1)) (3 * ((kRs σ).length) + 1) (((kBu σ).getD 1 (0, 0)).1)) (3 * ((kRs σ).length) + 2) (((kBu σ).getD 2 (0, 0)).1))) 7 (upd (upd (upd (F 7) (3 * ((kRs σ).length) + 0) (((kBu σ).getD 0 (0, 0)).2)) (3 * ((kRs σ).length) + 1) (((kBu σ).getD 1 (0, 0)).2)) (3 * ((kRs σ).length) + 2) (((kBu σ).getD 2 (0, 0)).2))) G 0 ((kRs σ).length + 1) ((kIs σ).length) (((kMk σ))) := by rw [eA59]; exact hM58.obj
          have glA59 : gL A A59 := by rw [eA59]; exact glA57.U (by decide)
          refine lv_aload_n hx hb d_MM_rule_131 rfl (lv_at hl 1 rfl) ?_
          refine g_get hx hb hts i_MM hown hK.1 hP (show A59 (20, 0) = some (h, .inr (5, [.ref (ad 0), .ref (ad 1), .int (nI 0), .ref (ad 3), .ref (ad 4), .ref (ad 5), .ref (ad 6), .ref (ad 7), .ref (ad 8), .ref (ad 9), .ref (ad 10), .int (nI ((kRs σ).length + 1)), .ref (ad 12), .ref (ad 13), .ref (ad 14), .ref (ad 15), .ref (ad 16), .ref (ad 17), .ref (ad 18), .ref (ad 19), .ref (ad 20), .ref (ad 21), .int (nI ((kIs σ).length)), .int (nI (((kMk σ))) - 1)])) from hM60.1) rfl 11 (by decide) (hts _ k_454) (fun _ h9 => h9) rfl d_MM_rule_132 ?_
          refine lv_iconst (v := 1) hx hb d_MM_rule_135 (by decide) ?_
          refine lv_isub hx hb d_MM_rule_136 ?_
          rw [nI_pred _]
          obtain ⟨F9, eF9⟩ : ∃ z : Nat → Nat → Int32, z = (va_up (va_up (va_up (va_up (va_up (va_up (va_up (va_up (va_up F 3 (upd (F 3) ((kRs σ).length) (nI mk))) 4 (upd (F 4) ((kRs σ).length) (nI mt))) 5 (upd (F 5) ((kRs σ).length) (1))) 6 (upd (F 6) (3 * ((kRs σ).length) + 0) (((kBu σ).getD 0 (0, 0)).1))) 7 (upd (F 7) (3 * ((kRs σ).length) + 0) (((kBu σ).getD 0 (0, 0)).2))) 6 (upd (upd (F 6) (3 * ((kRs σ).length) + 0) (((kBu σ).getD 0 (0, 0)).1)) (3 * ((kRs σ).length) + 1) (((kBu σ).getD 1 (0, 0)).1))) 7 (upd (upd (F 7) (3 * ((kRs σ).length) + 0) (((kBu σ).getD 0 (0, 0)).2)) (3 * ((kRs σ).length) + 1) (((kBu σ).getD 1 (0, 0)).2))) 6 (upd (upd (upd (F 6) (3 * ((kRs σ).length) + 0) (((kBu σ).getD 0 (0, 0)).1)) (3 * ((kRs σ).length) + 1) (((kBu σ).getD 1 (0, 0)).1)) (3 * ((kRs σ).length) + 2) (((kBu σ).getD 2 (0, 0)).1))) 7 (upd (upd (upd (F 7) (3 * ((kRs σ).length) + 0) (((kBu σ).getD 0 (0, 0)).2)) (3 * ((kRs σ).length) + 1) (((kBu σ).getD 1 (0, 0)).2)) (3 * ((kRs σ).length) + 2) (((kBu σ).getD 2 (0, 0)).2))) := ⟨_, rfl⟩
          rw [← eF9] at hM60
          have e9_3 : F9 3 = (upd (F 3) ((kRs σ).length) (nI mk)) := by rw [eF9]; rfl
          have e9_4 : F9 4 = (upd (F 4) ((kRs σ).length) (nI mt)) := by rw [eF9]; rfl
          have e9_5 : F9 5 = (upd (F 5) ((kRs σ).length) (1)) := by rw [eF9]; rfl
          have e9_6 : F9 6 = (upd (upd (upd (F 6) (3 * ((kRs σ).length) + 0) (((kBu σ).getD 0 (0, 0)).1)) (3 * ((kRs σ).length) + 1) (((kBu σ).getD 1 (0, 0)).1)) (3 * ((kRs σ).length) + 2) (((kBu σ).getD 2 (0, 0)).1)) := by rw [eF9]; rfl
          have e9_7 : F9 7 = (upd (upd (upd (F 7) (3 * ((kRs σ).length) + 0) (((kBu σ).getD 0 (0, 0)).2)) (3 * ((kRs σ).length) + 1) (((kBu σ).getD 1 (0, 0)).2)) (3 * ((kRs σ).length) + 2) (((kBu σ).getD 2 (0, 0)).2)) := by rw [eF9]; rfl
          have e9_8 : F9 8 = F 8 := by rw [eF9]; rfl
          have e9_9 : F9 9 = F 9 := by rw [eF9]; rfl
          have e9_10 : F9 10 = F 10 := by rw [eF9]; rfl
          have e9_12 : F9 12 = F 12 := by rw [eF9]; rfl
          have e9_13 : F9 13 = F 13 := by rw [eF9]; rfl
          have e9_14 : F9 14 = F 14 := by rw [eF9]; rfl
          have e9_15 : F9 15 = F 15 := by rw [eF9]; rfl
          have e9_16 : F9 16 = F 16 := by rw [eF9]; rfl
          have e9_17 : F9 17 = F 17 := by rw [eF9]; rfl
          have e9_18 : F9 18 = F 18 := by rw [eF9]; rfl
          have e9_20 : F9 20 = F 20 := by rw [eF9]; rfl
          have e9_21 : F9 21 = F 21 := by rw [eF9]; rfl
          have hru9 : mRu F9 (kRs σ).length (mk, mt, kBu σ, [], 0, true) := ⟨by rw [e9_3]; exact pk_us, by rw [e9_4]; exact pk_us, by rw [e9_5]; exact pk_us, by rw [e9_10]; exact hrz _ (Nat.le_refl _) (by omega), fun j hj => by
            replace hj : j < (kBu σ).length := hj
            rcases (by omega : j = 0 ∨ j = 1 ∨ j = 2) with rfl | rfl | rfl <;> simp [e9_6, e9_7, upd], fun j hj => absurd hj (Nat.not_lt_zero j)⟩
          have hrep := hR.ar (F' := F9) (r := (mk, mt, kBu σ, [], 0, true)) (by omega) (fun j hj => by have h9 := (w3 j hj).2.2.2.1; omega) (fun i hi => ⟨by rw [e9_3, pk_un (by omega)], by rw [e9_4, pk_un (by omega)], by rw [e9_5, pk_un (by omega)]⟩) (fun x9 hx9 => ⟨by rw [e9_6, pk_un (by omega), pk_un (by omega), pk_un (by omega)], by rw [e9_7, pk_un (by omega), pk_un (by omega), pk_un (by omega)]⟩) ⟨e9_8, e9_9, e9_10⟩ ⟨e9_12, e9_13, e9_14, e9_15, e9_16, e9_17, e9_18, e9_20, e9_21⟩ hru9
          have e9 : sRule σ (nI mk) (nI mt) = ((kRs σ ++ [(mk, mt, kBu σ, [], 0, true)], kIs σ, kSt σ, [], kMk σ), nI ((kRs σ).length)) := by unfold sRule; rw [if_pos (by simp_all), hc1, hc2, if_pos (by simp_all), if_neg (by omega)]
          refine W.widen (k := 0) (n := 0) (by decide) (by decide) ?_
          exact W.iret hx hb hr (fun t ht _ => ⟨⟨_, A59, rfl, ⟨by rw [e9], by rw [e9]; exact ⟨ad, F9, G, (by rw [lenS]; exact hM60), hrep⟩, glA59⟩, show gP D classes b A59 t.heap by rw [ht]; exact hP⟩, hS.F ht⟩) hS.2.2 d_MM_rule_137
      · skip
        replace c4 : (kRs σ).length = 24 := (nI_eq (a := (kRs σ).length) (b := 24) (by omega) (by decide)).mp c4
        refine lv_bipush (v := (-2)) hx hb d_MM_rule_29 (by decide) ?_
        have e9 : sRule σ (nI mk) (nI mt) = (σ, -2) := by unfold sRule; rw [if_pos (by simp_all), hc1, hc2, if_pos (by simp_all), if_pos (by omega)]
        refine W.widen (k := 0) (n := 0) (by decide) (by decide) ?_
        exact W.iret hx hb hr (fun t ht _ => ⟨⟨_, A, rfl, ⟨by rw [e9], by rw [e9]; exact hB, gL.rf⟩, show gP D classes b A t.heap by rw [ht]; exact hP⟩, hS.F ht⟩) hS.2.2 d_MM_rule_31
    · skip
      replace c3 : ¬ (kBu σ).length = mt % 4 := fun q => c3 ((nI_eq (a := (kBu σ).length) (b := mt % 4) (by omega) (by omega)).mpr q)
      refine lv_iconst (v := (-1)) hx hb d_MM_rule_18 (by decide) ?_
      have e9 : sRule σ (nI mk) (nI mt) = (σ, -1) := by unfold sRule; rw [if_pos (by simp_all), hc1, hc2, if_neg (by simp_all)]
      refine W.widen (k := 0) (n := 0) (by decide) (by decide) ?_
      exact W.iret hx hb hr (fun t ht _ => ⟨⟨_, A, rfl, ⟨by rw [e9], by rw [e9]; exact hB, gL.rf⟩, show gP D classes b A t.heap by rw [ht]; exact hP⟩, hS.F ht⟩) hS.2.2 d_MM_rule_19
set_option maxHeartbeats 4000000 in
set_option maxRecDepth 100000 in
theorem c_MM_inOrder (l : Launch) {D : va_G} {cI cZ cO cL : ClassId} {b e0 : Nat} {A : gW} {h : Nat} {σ : Bk} (hB : rMo cI cZ cL A h σ) (hw : wf σ) (x y : Int32) : Met l y_MM_inOrder (Cond.code y_MM_inOrder b_MM_inOrder 5 (some .int) :: TT) ({ frames := 2, cells := 0, slots := 0, locals := 46 }) (va_Pc [.ref h, .int x, .int y] (gI D [(cI, .int), (cZ, .boolean), (cO, .object "java/lang/Object"), (cL, .long)] b e0 A)) (va_Qi (fun (z : Int32) (A2 : gW) => z = (sInOrder σ x y).2 ∧ rMo cI cZ cL A2 h (sInOrder σ x y).1 ∧ gL A A2) (fun A2 t => gP D classes b A2 t.heap) (fun q => b ≤ q)) 0 0 (fun q => b ≤ q) := by
  refine Met.ofG (own := R_MM) (by decide +kernel) rfl (Nat.le_of_ble_eq_true rfl) ?_
  intro p e s m below meth c ls hx hb hr hlk hml hown hnm hts hI hl
  have hl : lv_has ls 5 [(0, .ref h), (1, .int x), (2, .int y)] := hl
  have hS : gS b s.heap s.heap [] := va_S.rf
  obtain ⟨hP, hK⟩ := hI
  obtain ⟨ad, F, G, hM, hR⟩ := id hB
  obtain ⟨hb0, hru, hrz, hst, hit, hiz, hgn⟩ := id hR
  obtain ⟨w1, w2, w3, w4, w5, w6, w7, w8⟩ := id hw
  refine lv_iload_n hx hb d_MM_inOrder_0 rfl (lv_at hl 1 rfl) ?_
  refine lv_iload_n hx hb d_MM_inOrder_1 rfl (lv_at hl 2 rfl) ?_
  refine g_ri (g_runS (As := [.int x, .int y]) (rest := []) ⟨hx, hb, hml, hown, hts⟩ (c_MM_bad l x y) st_MM_bad k_529 ⟨rfl, rfl, by decide, by decide⟩ (gT_pre _) rfl hl.1 rfl (Nat.le_of_ble_eq_true rfl) d_MM_inOrder_2 ⟨by decide, by decide⟩) (fun r1 hr1 => ?_)
  subst hr1
  refine lv_if_ne (tgt := 18) hx hb d_MM_inOrder_5 (by decide) (fun c2 => ?_) (fun c2 => ?_)
  · skip
    rw [bI_0] at c2
    refine lv_iconst (v := (-1)) hx hb d_MM_inOrder_18 (by decide) ?_
    have e9 : sInOrder σ x y = (σ, -1) := by unfold sInOrder; rw [if_neg (by simp_all)]
    refine W.widen (k := 0) (n := 0) (by decide) (by decide) ?_
    exact W.iret hx hb hr (fun t ht _ => ⟨⟨_, A, rfl, ⟨by rw [e9], by rw [e9]; exact hB, gL.rf⟩, show gP D classes b A t.heap by rw [ht]; exact hP⟩, hS.F ht⟩) hS.2.2 d_MM_inOrder_19
  · skip
    rw [bI_0] at c2
    have hin : inR x 0 3 = true ∧ inR y 0 7 = true := by simpa using c2
    obtain ⟨mk, hmk, rfl⟩ := inR_of (M := 3) (n := 3) (by decide) hin.1
    obtain ⟨mt, hmt, rfl⟩ := inR_of (M := 7) (n := 7) (by decide) hin.2
    have hc1 := nI_clamp (show mk < 2 ^ 31 by omega)
    have hc2 := nI_clamp (show mt < 2 ^ 31 by omega)
    refine lv_aload_n hx hb d_MM_inOrder_8 rfl (lv_at hl 0 rfl) ?_
    refine g_get hx hb hts i_MM hown hK.1 hP (show A (20, 0) = some (h, .inr (5, [.ref (ad 0), .ref (ad 1), .int (nI ((kBu σ).length)), .ref (ad 3), .ref (ad 4), .ref (ad 5), .ref (ad 6), .ref (ad 7), .ref (ad 8), .ref (ad 9), .ref (ad 10), .int (nI ((kRs σ).length)), .ref (ad 12), .ref (ad 13), .ref (ad 14), .ref (ad 15), .ref (ad 16), .ref (ad 17), .ref (ad 18), .ref (ad 19), .ref (ad 20), .ref (ad 21), .int (nI ((kIs σ).length)), .int (nI (kMk σ) - 1)])) from hM.1) rfl 2 (by decide) (hts _ k_445) (fun _ h9 => h9) rfl d_MM_inOrder_9 ?_
    refine lv_iload_n hx hb d_MM_inOrder_12 rfl (lv_at hl 2 rfl) ?_
    refine lv_iconst (v := 4) hx hb d_MM_inOrder_13 (by decide) ?_
    refine lv_irem hx hb d_MM_inOrder_14 (by decide) ?_
    rw [rem4 (show mt < 2 ^ 31 by omega)]
    refine lv_icmp_eq (tgt := 20) hx hb d_MM_inOrder_15 (by decide) (fun c3 => ?_) (fun c3 => ?_)
    · skip
      replace c3 : (kBu σ).length = mt % 4 := (nI_eq (a := (kBu σ).length) (b := mt % 4) (by omega) (by omega)).mp c3
      refine lv_bipush (v := (-10)) hx hb d_MM_inOrder_20 (by decide) ?_
      refine lv_istore_n (lv' := [(3, .int (-10)), (0, .ref h), (1, .int (nI mk)), (2, .int (nI mt))]) hx hb d_MM_inOrder_22 rfl hl (by decide) rfl (fun ls hl => ?_)
      refine lv_aload_n hx hb d_MM_inOrder_23 rfl (lv_at hl 1 rfl) ?_
      refine g_get hx hb hts i_MM hown hK.1 hP (show A (20, 0) = some (h, .inr (5, [.ref (ad 0), .ref (ad 1), .int (nI ((kBu σ).length)), .ref (ad 3), .ref (ad 4), .ref (ad 5), .ref (ad 6), .ref (ad 7), .ref (ad 8), .ref (ad 9), .ref (ad 10), .int (nI ((kRs σ).length)), .ref (ad 12), .ref (ad 13), .ref (ad 14), .ref (ad 15), .ref (ad 16), .ref (ad 17), .ref (ad 18), .ref (ad 19), .ref (ad 20), .ref (ad 21), .int (nI ((kIs σ).length)), .int (nI (kMk σ) - 1)])) from hM.1) rfl 22 (by decide) (hts _ k_465) (fun _ h9 => h9) rfl d_MM_inOrder_24 ?_
      refine lv_iconst (v := 1) hx hb d_MM_inOrder_27 (by decide) ?_
      refine lv_isub hx hb d_MM_inOrder_28 ?_
      refine lv_istore (lv' := [(4, .int ((nI ((kIs σ).length)) - 1)), (3, .int (-10)), (0, .ref h), (1, .int (nI mk)), (2, .int (nI mt))]) hx hb d_MM_inOrder_29 hl (by decide) rfl (fun ls hl => ?_)
      obtain ⟨fd, hfd⟩ : ∃ z : Int32, z = -10 := ⟨_, rfl⟩
      obtain ⟨n, hn⟩ : ∃ z : Nat, kMk σ + z = (kIs σ).length := ⟨(kIs σ).length - kMk σ, by omega⟩
      replace hl : lv_has ls 5 [(4, .int (nI (kMk σ + n) - 1)), (3, .int fd), (0, .ref h), (1, .int (nI mk)), (2, .int (nI mt))] := by rw [hfd, hn]; exact hl
      have hinv : fd = fst' (qAsk σ mk mt) ((kIs σ).length - (kMk σ + n)) (kMk σ + n) := by rw [hfd, hn, Nat.sub_self]; rfl
      have hnle : kMk σ + n ≤ (kIs σ).length := by omega
      clear hfd hn
      induction n generalizing fd ls with
      | zero =>
        rw [Nat.add_zero] at hinv
        refine lv_iload hx hb d_MM_inOrder_31 (lv_at hl 0 rfl) ?_
        refine lv_aload_n hx hb d_MM_inOrder_33 rfl (lv_at hl 2 rfl) ?_
        refine g_get hx hb hts i_MM hown hK.1 hP (show A (20, 0) = some (h, .inr (5, [.ref (ad 0), .ref (ad 1), .int (nI ((kBu σ).length)), .ref (ad 3), .ref (ad 4), .ref (ad 5), .ref (ad 6), .ref (ad 7), .ref (ad 8), .ref (ad 9), .ref (ad 10), .int (nI ((kRs σ).length)), .ref (ad 12), .ref (ad 13), .ref (ad 14), .ref (ad 15), .ref (ad 16), .ref (ad 17), .ref (ad 18), .ref (ad 19), .ref (ad 20), .ref (ad 21), .int (nI ((kIs σ).length)), .int (nI (kMk σ) - 1)])) from hM.1) rfl 23 (by decide) (hts _ k_466) (fun _ h9 => h9) rfl d_MM_inOrder_34 ?_
        refine lv_icmp_le (tgt := 60) hx hb d_MM_inOrder_37 (by decide) (fun _ => ?_) (fun h9 => absurd ((nIm1_le (by omega) (by omega)).mpr (show kMk σ + 0 ≤ kMk σ by omega)) h9)
        refine lv_aload_n hx hb d_MM_inOrder_60 rfl (lv_at hl 2 rfl) ?_
        refine lv_iconst (v := 0) hx hb d_MM_inOrder_61 (by decide) ?_
        refine g_put (ty := .int) (v := .int 0) hx hb hts i_MM t_MM t_MM_ok n_MM hown hK.1 hP hS (show A (20, 0) = some (h, .inr (5, [.ref (ad 0), .ref (ad 1), .int (nI ((kBu σ).length)), .ref (ad 3), .ref (ad 4), .ref (ad 5), .ref (ad 6), .ref (ad 7), .ref (ad 8), .ref (ad 9), .ref (ad 10), .int (nI ((kRs σ).length)), .ref (ad 12), .ref (ad 13), .ref (ad 14), .ref (ad 15), .ref (ad 16), .ref (ad 17), .ref (ad 18), .ref (ad 19), .ref (ad 20), .ref (ad 21), .int (nI ((kIs σ).length)), .int (nI (kMk σ) - 1)])) from hM.1) rfl 2 (by decide) (hts _ k_445) (fun _ h9 => h9) rfl (by decide +kernel) rfl rfl (Nat.le_of_ble_eq_true rfl) d_MM_inOrder_62 (fun H locs hP hS => ?_)
        obtain ⟨A5, eA5⟩ : ∃ z, z = gU A (20, 0) (h, .inr (5, [.ref (ad 0), .ref (ad 1), .int 0, .ref (ad 3), .ref (ad 4), .ref (ad 5), .ref (ad 6), .ref (ad 7), .ref (ad 8), .ref (ad 9), .ref (ad 10), .int (nI ((kRs σ).length)), .ref (ad 12), .ref (ad 13), .ref (ad 14), .ref (ad 15), .ref (ad 16), .ref (ad 17), .ref (ad 18), .ref (ad 19), .ref (ad 20), .ref (ad 21), .int (nI ((kIs σ).length)), .int (nI (kMk σ) - 1)])) := ⟨_, rfl⟩
        replace hP : gP D classes b A5 H := by rw [eA5]; exact hP
        have hM6 : rMM cI cZ cL A5 h ad F G 0 ((kRs σ).length) ((kIs σ).length) ((kMk σ)) := by rw [eA5]; exact hM.obj
        have glA5 : gL A A5 := by rw [eA5]; exact gL.rf.U (by decide)
        refine lv_iload_n hx hb d_MM_inOrder_65 rfl (lv_at hl 1 rfl) ?_
        refine lv_bipush (v := (-10)) hx hb d_MM_inOrder_66 (by decide) ?_
        refine lv_icmp_ne (tgt := 74) hx hb d_MM_inOrder_68 (by decide) (fun c7 => ?_) (fun c7 => ?_)
        · skip
          have hne : ¬ fst' (qAsk σ mk mt) ((kIs σ).length - kMk σ) (kMk σ) = -10 := by rw [← hinv]; exact c7
          obtain ⟨j, hj1, hj2, hj3⟩ := (fst_or (qAsk σ mk mt) ((kIs σ).length - kMk σ) (kMk σ)).resolve_left hne
          have hfj : fd = nI j := hinv.trans hj3
          have hcj := nI_clamp (show j < 2 ^ 31 by omega)
          replace hl : lv_has ls 5 [(4, .int (nI (kMk σ + 0) - 1)), (3, .int (nI j)), (0, .ref h), (1, .int (nI mk)), (2, .int (nI mt))] := by rw [← hfj]; exact hl
          refine lv_aload_n hx hb d_MM_inOrder_74 rfl (lv_at hl 2 rfl) ?_
          refine g_get hx hb hts i_MM hown hK.1 hP (show A5 (20, 0) = some (h, .inr (5, [.ref (ad 0), .ref (ad 1), .int (nI 0), .ref (ad 3), .ref (ad 4), .ref (ad 5), .ref (ad 6), .ref (ad 7), .ref (ad 8), .ref (ad 9), .ref (ad 10), .int (nI ((kRs σ).length)), .ref (ad 12), .ref (ad 13), .ref (ad 14), .ref (ad 15), .ref (ad 16), .ref (ad 17), .ref (ad 18), .ref (ad 19), .ref (ad 20), .ref (ad 21), .int (nI ((kIs σ).length)), .int (nI ((kMk σ)) - 1)])) from hM6.1) rfl 21 (by decide) (hts _ k_464) (fun _ h9 => h9) rfl d_MM_inOrder_75 ?_
          refine lv_iload_n hx hb d_MM_inOrder_78 rfl (lv_at hl 1 rfl) ?_
          refine lv_iconst (v := 1) hx hb d_MM_inOrder_79 (by decide) ?_
          refine g_zast (k := j) hx hb hK.1 hP hS 1 (show A5 (42, 0) = some (ad 21, .inl (cZ, 160, .inl (F 21))) from hM6.2.1 21 rfl) rfl (vp_in_nI (show j < 160 by omega) (by omega)) (nI_clamp (show j < 2 ^ 31 by omega)) rfl d_MM_inOrder_80 (fun H locs hP hS => ?_)
          obtain ⟨A8, eA8⟩ : ∃ z, z = gU A5 (42, 0) (ad 21, .inl (cZ, 160, .inl (upd (F 21) (j) (1)))) := ⟨_, rfl⟩
          replace hP : gP D classes b A8 H := by rw [eA8]; exact hP
          have hM9 : rMM cI cZ cL A8 h ad (va_up F 21 (upd (F 21) (j) (1))) G 0 ((kRs σ).length) ((kIs σ).length) ((kMk σ)) := by rw [eA8]; exact hM6.put 21 rfl _
          have glA8 : gL A A8 := by rw [eA8]; exact glA5.U (by decide)
          refine lv_aload_n hx hb d_MM_inOrder_81 rfl (lv_at hl 2 rfl) ?_
          refine lv_iload_n hx hb d_MM_inOrder_82 rfl (lv_at hl 1 rfl) ?_
          refine g_put (ty := .int) (v := .int (nI j)) hx hb hts i_MM t_MM t_MM_ok n_MM hown hK.1 hP hS (show A8 (20, 0) = some (h, .inr (5, [.ref (ad 0), .ref (ad 1), .int (nI 0), .ref (ad 3), .ref (ad 4), .ref (ad 5), .ref (ad 6), .ref (ad 7), .ref (ad 8), .ref (ad 9), .ref (ad 10), .int (nI ((kRs σ).length)), .ref (ad 12), .ref (ad 13), .ref (ad 14), .ref (ad 15), .ref (ad 16), .ref (ad 17), .ref (ad 18), .ref (ad 19), .ref (ad 20), .ref (ad 21), .int (nI ((kIs σ).length)), .int (nI ((kMk σ)) - 1)])) from hM9.1) rfl 23 (by decide) (hts _ k_466) (fun _ h9 => h9) rfl (by decide +kernel) rfl rfl (Nat.le_of_ble_eq_true rfl) d_MM_inOrder_83 (fun H locs hP hS => ?_)
          obtain ⟨A10, eA10⟩ : ∃ z, z = gU A8 (20, 0) (h, .inr (5, [.ref (ad 0), .ref (ad 1), .int (nI 0), .ref (ad 3), .ref (ad 4), .ref (ad 5), .ref (ad 6), .ref (ad 7), .ref (ad 8), .ref (ad 9), .ref (ad 10), .int (nI ((kRs σ).length)), .ref (ad 12), .ref (ad 13), .ref (ad 14), .ref (ad 15), .ref (ad 16), .ref (ad 17), .ref (ad 18), .ref (ad 19), .ref (ad 20), .ref (ad 21), .int (nI ((kIs σ).length)), .int (nI j)])) := ⟨_, rfl⟩
          replace hP : gP D classes b A10 H := by rw [eA10]; exact hP
          have hM11 : rMM cI cZ cL A10 h ad (va_up F 21 (upd (F 21) (j) (1))) G 0 ((kRs σ).length) ((kIs σ).length) ((j + 1)) := by rw [eA10, ← nI_pred j]; exact hM9.obj
          have glA10 : gL A A10 := by rw [eA10]; exact glA8.U (by decide)
          refine lv_iload_n hx hb d_MM_inOrder_86 rfl (lv_at hl 1 rfl) ?_
          have e9 : sInOrder σ (nI mk) (nI mt) = ((kRs σ, (kIs σ).set j (iVer ((kIs σ).getD j i0)), kSt σ, [], j + 1), nI j) := by unfold sInOrder; rw [if_pos (by simp_all), hc1, hc2, if_pos (by simp_all), if_neg hne, hj3, hcj]
          refine W.widen (k := 0) (n := 0) (by decide) (by decide) ?_
          exact W.iret hx hb hr (fun t ht _ => ⟨⟨_, A10, rfl, ⟨by rw [e9], by rw [e9]; exact ⟨ad, (va_up F 21 (upd (F 21) (j) (1))), G, (by rw [show ((kIs σ).set j (iVer ((kIs σ).getD j i0))).length = (kIs σ).length from List.length_set]; exact hM11), (hR.ver (i := j) (show j < (kIs σ).length by omega)).bu0.cg (List.length_set).symm⟩, glA10⟩, show gP D classes b A10 t.heap by rw [ht]; exact hP⟩, hS.F ht⟩) hS.2.2 d_MM_inOrder_87
        · skip
          refine lv_bipush (v := (-10)) hx hb d_MM_inOrder_71 (by decide) ?_
          have e9 : sInOrder σ (nI mk) (nI mt) = ((kRs σ, kIs σ, kSt σ, [], kMk σ), -10) := by unfold sInOrder; rw [if_pos (by simp_all), hc1, hc2, if_pos (by simp_all), if_pos (by rw [← hinv]; simp_all)]
          refine W.widen (k := 0) (n := 0) (by decide) (by decide) ?_
          exact W.iret hx hb hr (fun t ht _ => ⟨⟨_, A5, rfl, ⟨by rw [e9], by rw [e9]; exact ⟨ad, F, G, hM6, hR.bu0⟩, glA5⟩, show gP D classes b A5 t.heap by rw [ht]; exact hP⟩, hS.F ht⟩) hS.2.2 d_MM_inOrder_73
      | succ n ih =>
        replace hl : lv_has ls 5 [(4, .int (nI (kMk σ + n))), (3, .int fd), (0, .ref h), (1, .int (nI mk)), (2, .int (nI mt))] := by rw [← nI_pred]; exact hl
        refine lv_iload hx hb d_MM_inOrder_31 (lv_at hl 0 rfl) ?_
        refine lv_aload_n hx hb d_MM_inOrder_33 rfl (lv_at hl 2 rfl) ?_
        refine g_get hx hb hts i_MM hown hK.1 hP (show A (20, 0) = some (h, .inr (5, [.ref (ad 0), .ref (ad 1), .int (nI ((kBu σ).length)), .ref (ad 3), .ref (ad 4), .ref (ad 5), .ref (ad 6), .ref (ad 7), .ref (ad 8), .ref (ad 9), .ref (ad 10), .int (nI ((kRs σ).length)), .ref (ad 12), .ref (ad 13), .ref (ad 14), .ref (ad 15), .ref (ad 16), .ref (ad 17), .ref (ad 18), .ref (ad 19), .ref (ad 20), .ref (ad 21), .int (nI ((kIs σ).length)), .int (nI (kMk σ) - 1)])) from hM.1) rfl 23 (by decide) (hts _ k_466) (fun _ h9 => h9) rfl d_MM_inOrder_34 ?_
        refine lv_icmp_le (tgt := 60) hx hb d_MM_inOrder_37 (by decide) (fun h9 => absurd h9 (fun q9 => absurd ((nIm1_le (a := kMk σ + n + 1) (b := kMk σ) (by omega) (by omega)).mp (by rw [nI_pred]; exact q9)) (by omega))) (fun _ => ?_)
        refine lv_aload_n hx hb d_MM_inOrder_40 rfl (lv_at hl 2 rfl) ?_
        refine lv_iload hx hb d_MM_inOrder_41 (lv_at hl 0 rfl) ?_
        refine lv_iload_n hx hb d_MM_inOrder_43 rfl (lv_at hl 3 rfl) ?_
        refine lv_iload_n hx hb d_MM_inOrder_44 rfl (lv_at hl 4 rfl) ?_
        refine g_ri (g_runV (As := [.int (nI (kMk σ + n)), .int (nI mk), .int (nI mt)]) (rest := []) ⟨hx, hb, hml, hown, hts⟩ (c_MM_asked l hM (bu := kBu σ) (show (kMk σ + n) < 160 by omega) (hit (kMk σ + n) (by omega)) (w4 (kMk σ + n) (by omega)).1.1 (w4 (kMk σ + n) (by omega)).1.2 (by omega) (by omega) w5 hb0 w6) st_MM_asked k_575 ⟨rfl, rfl, by decide, by decide⟩ rfl (gI.preV hK hS hP (show A (20, 0) = some (h, .inr (5, [.ref (ad 0), .ref (ad 1), .int (nI ((kBu σ).length)), .ref (ad 3), .ref (ad 4), .ref (ad 5), .ref (ad 6), .ref (ad 7), .ref (ad 8), .ref (ad 9), .ref (ad 10), .int (nI ((kRs σ).length)), .ref (ad 12), .ref (ad 13), .ref (ad 14), .ref (ad 15), .ref (ad 16), .ref (ad 17), .ref (ad 18), .ref (ad 19), .ref (ad 20), .ref (ad 21), .int (nI ((kIs σ).length)), .int (nI (kMk σ) - 1)])) from hM.1) rfl _) rfl hl.1 rfl (Nat.le_of_ble_eq_true rfl) d_MM_inOrder_45 ⟨by decide, by decide⟩) (fun r13 hr13 => ?_)
        subst hr13
        refine lv_if_eq (tgt := 54) hx hb d_MM_inOrder_48 (by decide) (fun c14 => ?_) (fun c14 => ?_)
        · skip
          rw [bI_0] at c14
          refine lv_iinc (v := nI (kMk σ + n) - 1) (lv' := [(4, .int (nI (kMk σ + n) - 1)), (3, .int fd), (0, .ref h), (1, .int (nI mk)), (2, .int (nI mt))]) hx hb d_MM_inOrder_54 hl (k := 0) rfl (dec1 _) (by decide) rfl (fun ls hl => ?_)
          refine lv_goto (tgt := 31) hx hb d_MM_inOrder_57 (by decide) ?_
          exact ih _ _ (lv_sub hl [0, 1, 2, 3, 4] rfl) (by rw [show (kIs σ).length - (kMk σ + n) = ((kIs σ).length - (kMk σ + (n + 1))) + 1 by omega]; unfold fst'; rw [show qAsk σ mk mt (kMk σ + n) = iAsk (kBu σ) mk mt ((kIs σ).getD (kMk σ + n) i0) from rfl]; simp_all [Nat.add_assoc]) (by omega)
        · skip
          rw [bI_0] at c14
          refine lv_iload hx hb d_MM_inOrder_51 (lv_at hl 0 rfl) ?_
          refine lv_istore_n (lv' := [(3, .int (nI (kMk σ + n))), (4, .int (nI (kMk σ + n))), (0, .ref h), (1, .int (nI mk)), (2, .int (nI mt))]) hx hb d_MM_inOrder_53 rfl hl (by decide) rfl (fun ls hl => ?_)
          refine lv_iinc (v := nI (kMk σ + n) - 1) (lv' := [(4, .int (nI (kMk σ + n) - 1)), (3, .int (nI (kMk σ + n))), (0, .ref h), (1, .int (nI mk)), (2, .int (nI mt))]) hx hb d_MM_inOrder_54 hl (k := 1) rfl (dec1 _) (by decide) rfl (fun ls hl => ?_)
          refine lv_goto (tgt := 31) hx hb d_MM_inOrder_57 (by decide) ?_
          exact ih _ _ (lv_sub hl [0, 1, 2, 3, 4] rfl) (by rw [show (kIs σ).length - (kMk σ + n) = ((kIs σ).length - (kMk σ + (n + 1))) + 1 by omega]; unfold fst'; rw [show qAsk σ mk mt (kMk σ + n) = iAsk (kBu σ) mk mt ((kIs σ).getD (kMk σ + n) i0) from rfl]; simp_all [Nat.add_assoc]) (by omega)
    · skip
      replace c3 : ¬ (kBu σ).length = mt % 4 := fun q => c3 ((nI_eq (a := (kBu σ).length) (b := mt % 4) (by omega) (by omega)).mpr q)
      refine lv_iconst (v := (-1)) hx hb d_MM_inOrder_18 (by decide) ?_
      have e9 : sInOrder σ (nI mk) (nI mt) = (σ, -1) := by unfold sInOrder; rw [if_pos (by simp_all), hc1, hc2, if_neg (by simp_all)]
      refine W.widen (k := 0) (n := 0) (by decide) (by decide) ?_
      exact W.iret hx hb hr (fun t ht _ => ⟨⟨_, A, rfl, ⟨by rw [e9], by rw [e9]; exact hB, gL.rf⟩, show gP D classes b A t.heap by rw [ht]; exact hP⟩, hS.F ht⟩) hS.2.2 d_MM_inOrder_19
