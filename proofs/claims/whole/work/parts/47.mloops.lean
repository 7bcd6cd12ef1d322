set_option maxHeartbeats 4000000 in
set_option maxRecDepth 100000 in
theorem c_MM_verify (l : Launch) {D : va_G} {cI cZ cO cL : ClassId} {b e0 : Nat} {A : gW} {h : Nat} {σ : Bk} (hB : rMo cI cZ cL A h σ) (hw : wf σ) (x y md n : Int32) : Met l y_MM_verify (Cond.code y_MM_verify b_MM_verify 8 (some .int) :: TT) ({ frames := 2, cells := 0, slots := 0, locals := 46 }) (va_Pc [.ref h, .int x, .int y, .int md, .int n] (gI D [(cI, .int), (cZ, .boolean), (cO, .object "java/lang/Object"), (cL, .long)] b e0 A)) (va_Qi (fun (z : Int32) (A2 : gW) => z = (sVerify σ x y md n).2 ∧ rMo cI cZ cL A2 h (sVerify σ x y md n).1 ∧ gL A A2) (fun A2 t => gP D classes b A2 t.heap) (fun q => b ≤ q)) 0 0 (fun q => b ≤ q) := by
  refine Met.ofG (own := R_MM) (by decide +kernel) rfl (Nat.le_of_ble_eq_true rfl) ?_
  intro p e s m below meth c ls hx hb hr hlk hml hown hnm hts hI hl
  have hl : lv_has ls 8 [(0, .ref h), (1, .int x), (2, .int y), (3, .int md), (4, .int n)] := hl
  have hS : gS b s.heap s.heap [] := va_S.rf
  obtain ⟨hP, hK⟩ := hI
  obtain ⟨ad, F, G, hM, hR⟩ := id hB
  obtain ⟨hb0, hru, hrz, hst, hit, hiz, hgn⟩ := id hR
  obtain ⟨w1, w2, w3, w4, w5, w6, w7, w8⟩ := id hw
  refine lv_iload_n hx hb d_MM_verify_0 rfl (lv_at hl 1 rfl) ?_
  refine lv_iload_n hx hb d_MM_verify_1 rfl (lv_at hl 2 rfl) ?_
  refine g_ri (g_runS (As := [.int x, .int y]) (rest := []) ⟨hx, hb, hml, hown, hts⟩ (c_MM_bad l x y) st_MM_bad k_529 ⟨rfl, rfl, by decide, by decide⟩ (gT_pre _) rfl hl.1 rfl (Nat.le_of_ble_eq_true rfl) d_MM_verify_2 ⟨by decide, by decide⟩) (fun r1 hr1 => ?_)
  subst hr1
  refine lv_if_ne (tgt := 27) hx hb d_MM_verify_5 (by decide) (fun c2 => ?_) (fun c2 => ?_)
  · skip
    rw [bI_0] at c2
    refine lv_iconst (v := (-1)) hx hb d_MM_verify_27 (by decide) ?_
    have e9 : sVerify σ x y md n = (σ, -1) := by unfold sVerify; rw [if_neg (by simp_all)]
    refine W.widen (k := 0) (n := 0) (by decide) (by decide) ?_
    exact W.iret hx hb hr (fun t ht _ => ⟨⟨_, A, rfl, ⟨by rw [e9], by rw [e9]; exact hB, gL.rf⟩, show gP D classes b A t.heap by rw [ht]; exact hP⟩, hS.F ht⟩) hS.2.2 d_MM_verify_28
  · skip
    rw [bI_0] at c2
    have hin : inR x 0 3 = true ∧ inR y 0 7 = true := by simpa using c2
    obtain ⟨mk, hmk, rfl⟩ := inR_of (M := 3) (n := 3) (by decide) hin.1
    obtain ⟨mt, hmt, rfl⟩ := inR_of (M := 7) (n := 7) (by decide) hin.2
    have hc1 := nI_clamp (show mk < 2 ^ 31 by omega)
    have hc2 := nI_clamp (show mt < 2 ^ 31 by omega)
    refine lv_iload_n hx hb d_MM_verify_8 rfl (lv_at hl 3 rfl) ?_
    refine lv_if_lt (tgt := 27) hx hb d_MM_verify_9 (by decide) (fun c3 => ?_) (fun c3 => ?_)
    · skip
      refine lv_iconst (v := (-1)) hx hb d_MM_verify_27 (by decide) ?_
      have e9 : sVerify σ (nI mk) (nI mt) md n = (σ, -1) := by unfold sVerify; rw [if_neg (by simp_all [inR])]
      refine W.widen (k := 0) (n := 0) (by decide) (by decide) ?_
      exact W.iret hx hb hr (fun t ht _ => ⟨⟨_, A, rfl, ⟨by rw [e9], by rw [e9]; exact hB, gL.rf⟩, show gP D classes b A t.heap by rw [ht]; exact hP⟩, hS.F ht⟩) hS.2.2 d_MM_verify_28
    · skip
      refine lv_iload_n hx hb d_MM_verify_12 rfl (lv_at hl 3 rfl) ?_
      refine lv_iconst (v := 2) hx hb d_MM_verify_13 (by decide) ?_
      refine lv_icmp_gt (tgt := 27) hx hb d_MM_verify_14 (by decide) (fun c4 => ?_) (fun c4 => ?_)
      · skip
        refine lv_iconst (v := (-1)) hx hb d_MM_verify_27 (by decide) ?_
        have e9 : sVerify σ (nI mk) (nI mt) md n = (σ, -1) := by unfold sVerify; rw [if_neg (by simp_all [inR])]
        refine W.widen (k := 0) (n := 0) (by decide) (by decide) ?_
        exact W.iret hx hb hr (fun t ht _ => ⟨⟨_, A, rfl, ⟨by rw [e9], by rw [e9]; exact hB, gL.rf⟩, show gP D classes b A t.heap by rw [ht]; exact hP⟩, hS.F ht⟩) hS.2.2 d_MM_verify_28
      · skip
        refine lv_aload_n hx hb d_MM_verify_17 rfl (lv_at hl 0 rfl) ?_
        refine g_get hx hb hts i_MM hown hK.1 hP (show A (20, 0) = some (h, .inr (5, [.ref (ad 0), .ref (ad 1), .int (nI ((kBu σ).length)), .ref (ad 3), .ref (ad 4), .ref (ad 5), .ref (ad 6), .ref (ad 7), .ref (ad 8), .ref (ad 9), .ref (ad 10), .int (nI ((kRs σ).length)), .ref (ad 12), .ref (ad 13), .ref (ad 14), .ref (ad 15), .ref (ad 16), .ref (ad 17), .ref (ad 18), .ref (ad 19), .ref (ad 20), .ref (ad 21), .int (nI ((kIs σ).length)), .int (nI (kMk σ) - 1)])) from hM.1) rfl 2 (by decide) (hts _ k_445) (fun _ h9 => h9) rfl d_MM_verify_18 ?_
        refine lv_iload_n hx hb d_MM_verify_21 rfl (lv_at hl 2 rfl) ?_
        refine lv_iconst (v := 4) hx hb d_MM_verify_22 (by decide) ?_
        refine lv_irem hx hb d_MM_verify_23 (by decide) ?_
        rw [rem4 (show mt < 2 ^ 31 by omega)]
        refine lv_icmp_eq (tgt := 29) hx hb d_MM_verify_24 (by decide) (fun c5 => ?_) (fun c5 => ?_)
        · skip
          replace c5 : (kBu σ).length = mt % 4 := (nI_eq (a := (kBu σ).length) (b := mt % 4) (by omega) (by omega)).mp c5
          refine lv_iconst (v := 0) hx hb d_MM_verify_29 (by decide) ?_
          refine lv_istore (lv' := [(5, .int 0), (0, .ref h), (1, .int (nI mk)), (2, .int (nI mt)), (3, .int md), (4, .int n)]) hx hb d_MM_verify_30 hl (by decide) rfl (fun ls hl => ?_)
          refine lv_iconst (v := 0) hx hb d_MM_verify_32 (by decide) ?_
          refine lv_istore (lv' := [(6, .int 0), (5, .int 0), (0, .ref h), (1, .int (nI mk)), (2, .int (nI mt)), (3, .int md), (4, .int n)]) hx hb d_MM_verify_33 hl (by decide) rfl (fun ls hl => ?_)
          obtain ⟨i, hi0⟩ : ∃ z : Nat, z = 0 := ⟨_, rfl⟩
          obtain ⟨cn, hcn0⟩ : ∃ z : Nat, z = 0 := ⟨_, rfl⟩
          obtain ⟨nq, hnq⟩ : ∃ z : Nat, i + z = (kIs σ).length := ⟨(kIs σ).length - i, by omega⟩
          replace hl : lv_has ls 8 [(6, .int (nI i)), (5, .int (nI cn)), (0, .ref h), (1, .int (nI mk)), (2, .int (nI mt)), (3, .int md), (4, .int n)] := by rw [hi0, hcn0, nI_0]; exact hl
          have hinv : cn = cnt (qAsk σ mk mt) i := by subst hi0 hcn0; rfl
          clear hi0 hcn0
          induction nq generalizing i cn ls with
          | zero =>
            refine lv_iload hx hb d_MM_verify_35 (lv_at hl 0 rfl) ?_
            refine lv_aload_n hx hb d_MM_verify_37 rfl (lv_at hl 2 rfl) ?_
            refine g_get hx hb hts i_MM hown hK.1 hP (show A (20, 0) = some (h, .inr (5, [.ref (ad 0), .ref (ad 1), .int (nI ((kBu σ).length)), .ref (ad 3), .ref (ad 4), .ref (ad 5), .ref (ad 6), .ref (ad 7), .ref (ad 8), .ref (ad 9), .ref (ad 10), .int (nI ((kRs σ).length)), .ref (ad 12), .ref (ad 13), .ref (ad 14), .ref (ad 15), .ref (ad 16), .ref (ad 17), .ref (ad 18), .ref (ad 19), .ref (ad 20), .ref (ad 21), .int (nI ((kIs σ).length)), .int (nI (kMk σ) - 1)])) from hM.1) rfl 22 (by decide) (hts _ k_465) (fun _ h9 => h9) rfl d_MM_verify_38 ?_
            refine lv_icmp_ge (tgt := 64) hx hb d_MM_verify_41 (by decide) (fun _ => ?_) (fun h9 => absurd (nI_le (show (kIs σ).length ≤ i by omega) (by omega)) h9)
            refine lv_iload_n hx hb d_MM_verify_64 rfl (lv_at hl 5 rfl) ?_
            refine lv_if_ne (tgt := 83) hx hb d_MM_verify_65 (by decide) (fun c7 => ?_) (fun c7 => ?_)
            · skip
              refine lv_iload_n hx hb d_MM_verify_83 rfl (lv_at hl 5 rfl) ?_
              refine lv_iconst (v := 1) hx hb d_MM_verify_84 (by decide) ?_
              refine lv_icmp_ne (tgt := 103) hx hb d_MM_verify_85 (by decide) (fun c8 => ?_) (fun c8 => ?_)
              · skip
                refine lv_iload hx hb d_MM_verify_103 (lv_at hl 1 rfl) ?_
                refine lv_iload hx hb d_MM_verify_105 (lv_at hl 6 rfl) ?_
                refine lv_icmp_gt (tgt := 114) hx hb d_MM_verify_107 (by decide) (fun c9 => ?_) (fun c9 => ?_)
                · skip
                  refine lv_iconst (v := 0) hx hb d_MM_verify_114 (by decide) ?_
                  refine lv_istore (lv' := [(6, .int 0), (5, .int (nI cn)), (0, .ref h), (1, .int (nI mk)), (2, .int (nI mt)), (3, .int md), (4, .int n)]) hx hb d_MM_verify_115 hl (by decide) rfl (fun ls hl => ?_)
                  refine lv_iconst (v := 0) hx hb d_MM_verify_117 (by decide) ?_
                  refine lv_istore (lv' := [(7, .int 0), (6, .int 0), (5, .int (nI cn)), (0, .ref h), (1, .int (nI mk)), (2, .int (nI mt)), (3, .int md), (4, .int n)]) hx hb d_MM_verify_118 hl (by decide) rfl (fun ls hl => ?_)
                  refine lv_iload hx hb d_MM_verify_120 (lv_at hl 0 rfl) ?_
                  refine lv_aload_n hx hb d_MM_verify_122 rfl (lv_at hl 3 rfl) ?_
                  refine g_get hx hb hts i_MM hown hK.1 hP (show A (20, 0) = some (h, .inr (5, [.ref (ad 0), .ref (ad 1), .int (nI ((kBu σ).length)), .ref (ad 3), .ref (ad 4), .ref (ad 5), .ref (ad 6), .ref (ad 7), .ref (ad 8), .ref (ad 9), .ref (ad 10), .int (nI ((kRs σ).length)), .ref (ad 12), .ref (ad 13), .ref (ad 14), .ref (ad 15), .ref (ad 16), .ref (ad 17), .ref (ad 18), .ref (ad 19), .ref (ad 20), .ref (ad 21), .int (nI ((kIs σ).length)), .int (nI (kMk σ) - 1)])) from hM.1) rfl 22 (by decide) (hts _ k_465) (fun _ h9 => h9) rfl d_MM_verify_123 ?_
                  refine lv_icmp_ge (tgt := 159) hx hb d_MM_verify_126 (by decide) (fun c10 => ?_) (fun c10 => ?_)
                  · skip
                    replace c10 : (kIs σ).length ≤ 0 := (nI_leI (a := (kIs σ).length) (b := 0) (by omega) (by decide)).mp c10
                    refine lv_aload_n hx hb d_MM_verify_159 rfl (lv_at hl 3 rfl) ?_
                    refine lv_iconst (v := 0) hx hb d_MM_verify_160 (by decide) ?_
                    refine g_put (ty := .int) (v := .int 0) hx hb hts i_MM t_MM t_MM_ok n_MM hown hK.1 hP hS (show A (20, 0) = some (h, .inr (5, [.ref (ad 0), .ref (ad 1), .int (nI ((kBu σ).length)), .ref (ad 3), .ref (ad 4), .ref (ad 5), .ref (ad 6), .ref (ad 7), .ref (ad 8), .ref (ad 9), .ref (ad 10), .int (nI ((kRs σ).length)), .ref (ad 12), .ref (ad 13), .ref (ad 14), .ref (ad 15), .ref (ad 16), .ref (ad 17), .ref (ad 18), .ref (ad 19), .ref (ad 20), .ref (ad 21), .int (nI ((kIs σ).length)), .int (nI (kMk σ) - 1)])) from hM.1) rfl 2 (by decide) (hts _ k_445) (fun _ h9 => h9) rfl (by decide +kernel) rfl rfl (Nat.le_of_ble_eq_true rfl) d_MM_verify_161 (fun H locs hP hS => ?_)
                    obtain ⟨A11, eA11⟩ : ∃ z, z = gU A (20, 0) (h, .inr (5, [.ref (ad 0), .ref (ad 1), .int 0, .ref (ad 3), .ref (ad 4), .ref (ad 5), .ref (ad 6), .ref (ad 7), .ref (ad 8), .ref (ad 9), .ref (ad 10), .int (nI ((kRs σ).length)), .ref (ad 12), .ref (ad 13), .ref (ad 14), .ref (ad 15), .ref (ad 16), .ref (ad 17), .ref (ad 18), .ref (ad 19), .ref (ad 20), .ref (ad 21), .int (nI ((kIs σ).length)), .int (nI (kMk σ) - 1)])) := ⟨_, rfl⟩
                    replace hP : gP D classes b A11 H := by rw [eA11]; exact hP
                    have hM12 : rMM cI cZ cL A11 h ad F G 0 ((kRs σ).length) ((kIs σ).length) ((kMk σ)) := by rw [eA11]; exact hM.obj
                    have glA11 : gL A A11 := by rw [eA11]; exact gL.rf.U (by decide)
                    refine lv_iload hx hb d_MM_verify_164 (lv_at hl 1 rfl) ?_
                    refine lv_if_eq (tgt := 174) hx hb d_MM_verify_166 (by decide) (fun _ => ?_) (fun h9 => absurd (by decide) h9)
                    refine lv_bipush (v := (-10)) hx hb d_MM_verify_174 (by decide) ?_
                    refine lv_iload hx hb d_MM_verify_176 (lv_at hl 2 rfl) ?_
                    refine lv_isub hx hb d_MM_verify_178 ?_
                    have hcn : cn = (cnt (qAsk σ mk mt) (kIs σ).length) := by rw [hinv, show i = (kIs σ).length by omega]
                    have hwt : wantd (nI (cnt (qAsk σ mk mt) (kIs σ).length)) md n = false := by rw [← hcn]; simp_all [wantd, ← Int32.not_lt]
                    have e9 : sVerify σ (nI mk) (nI mt) md n = ((kRs σ, kIs σ, kSt σ, [], kMk σ), -10 - nI (cnt (qAsk σ mk mt) (kIs σ).length)) := by unfold sVerify; rw [if_pos (by simp_all [inR]), hc1, hc2, if_pos (by simp_all), if_neg (by rw [hwt]; decide)]
                    refine W.widen (k := 0) (n := 0) (by decide) (by decide) ?_
                    exact W.iret hx hb hr (fun t ht _ => ⟨⟨_, A11, rfl, ⟨by rw [e9]; rw [hcn], by rw [e9]; exact ⟨ad, F, G, hM12, hR.bu0⟩, glA11⟩, show gP D classes b A11 t.heap by rw [ht]; exact hP⟩, hS.F ht⟩) hS.2.2 d_MM_verify_179
                  · skip
                    replace c10 : ¬ (kIs σ).length ≤ 0 := fun q => c10 ((nI_leI (a := (kIs σ).length) (b := 0) (by omega) (by decide)).mpr q)
                    refine lv_iload hx hb d_MM_verify_129 (lv_at hl 1 rfl) ?_
                    refine lv_if_eq (tgt := 159) hx hb d_MM_verify_131 (by decide) (fun _ => ?_) (fun h9 => absurd (by decide) h9)
                    refine lv_aload_n hx hb d_MM_verify_159 rfl (lv_at hl 3 rfl) ?_
                    refine lv_iconst (v := 0) hx hb d_MM_verify_160 (by decide) ?_
                    refine g_put (ty := .int) (v := .int 0) hx hb hts i_MM t_MM t_MM_ok n_MM hown hK.1 hP hS (show A (20, 0) = some (h, .inr (5, [.ref (ad 0), .ref (ad 1), .int (nI ((kBu σ).length)), .ref (ad 3), .ref (ad 4), .ref (ad 5), .ref (ad 6), .ref (ad 7), .ref (ad 8), .ref (ad 9), .ref (ad 10), .int (nI ((kRs σ).length)), .ref (ad 12), .ref (ad 13), .ref (ad 14), .ref (ad 15), .ref (ad 16), .ref (ad 17), .ref (ad 18), .ref (ad 19), .ref (ad 20), .ref (ad 21), .int (nI ((kIs σ).length)), .int (nI (kMk σ) - 1)])) from hM.1) rfl 2 (by decide) (hts _ k_445) (fun _ h9 => h9) rfl (by decide +kernel) rfl rfl (Nat.le_of_ble_eq_true rfl) d_MM_verify_161 (fun H locs hP hS => ?_)
                    obtain ⟨A15, eA15⟩ : ∃ z, z = gU A (20, 0) (h, .inr (5, [.ref (ad 0), .ref (ad 1), .int 0, .ref (ad 3), .ref (ad 4), .ref (ad 5), .ref (ad 6), .ref (ad 7), .ref (ad 8), .ref (ad 9), .ref (ad 10), .int (nI ((kRs σ).length)), .ref (ad 12), .ref (ad 13), .ref (ad 14), .ref (ad 15), .ref (ad 16), .ref (ad 17), .ref (ad 18), .ref (ad 19), .ref (ad 20), .ref (ad 21), .int (nI ((kIs σ).length)), .int (nI (kMk σ) - 1)])) := ⟨_, rfl⟩
                    replace hP : gP D classes b A15 H := by rw [eA15]; exact hP
                    have hM16 : rMM cI cZ cL A15 h ad F G 0 ((kRs σ).length) ((kIs σ).length) ((kMk σ)) := by rw [eA15]; exact hM.obj
                    have glA15 : gL A A15 := by rw [eA15]; exact gL.rf.U (by decide)
                    refine lv_iload hx hb d_MM_verify_164 (lv_at hl 1 rfl) ?_
                    refine lv_if_eq (tgt := 174) hx hb d_MM_verify_166 (by decide) (fun _ => ?_) (fun h9 => absurd (by decide) h9)
                    refine lv_bipush (v := (-10)) hx hb d_MM_verify_174 (by decide) ?_
                    refine lv_iload hx hb d_MM_verify_176 (lv_at hl 2 rfl) ?_
                    refine lv_isub hx hb d_MM_verify_178 ?_
                    have hcn : cn = (cnt (qAsk σ mk mt) (kIs σ).length) := by rw [hinv, show i = (kIs σ).length by omega]
                    have hwt : wantd (nI (cnt (qAsk σ mk mt) (kIs σ).length)) md n = false := by rw [← hcn]; simp_all [wantd, ← Int32.not_lt]
                    have e9 : sVerify σ (nI mk) (nI mt) md n = ((kRs σ, kIs σ, kSt σ, [], kMk σ), -10 - nI (cnt (qAsk σ mk mt) (kIs σ).length)) := by unfold sVerify; rw [if_pos (by simp_all [inR]), hc1, hc2, if_pos (by simp_all), if_neg (by rw [hwt]; decide)]
                    refine W.widen (k := 0) (n := 0) (by decide) (by decide) ?_
                    exact W.iret hx hb hr (fun t ht _ => ⟨⟨_, A15, rfl, ⟨by rw [e9]; rw [hcn], by rw [e9]; exact ⟨ad, F, G, hM16, hR.bu0⟩, glA15⟩, show gP D classes b A15 t.heap by rw [ht]; exact hP⟩, hS.F ht⟩) hS.2.2 d_MM_verify_179
                · skip
                  refine lv_iconst (v := 1) hx hb d_MM_verify_110 (by decide) ?_
                  refine lv_goto (tgt := 115) hx hb d_MM_verify_111 (by decide) ?_
                  refine lv_istore (lv' := [(6, .int 1), (5, .int (nI cn)), (0, .ref h), (1, .int (nI mk)), (2, .int (nI mt)), (3, .int md), (4, .int n)]) hx hb d_MM_verify_115 hl (by decide) rfl (fun ls hl => ?_)
                  refine lv_iconst (v := 0) hx hb d_MM_verify_117 (by decide) ?_
                  refine lv_istore (lv' := [(7, .int 0), (6, .int 1), (5, .int (nI cn)), (0, .ref h), (1, .int (nI mk)), (2, .int (nI mt)), (3, .int md), (4, .int n)]) hx hb d_MM_verify_118 hl (by decide) rfl (fun ls hl => ?_)
                  obtain ⟨gn, hgn0⟩ : ∃ z : Nat, z = (kIs σ).length := ⟨_, rfl⟩
                  rw [← hgn0] at hR
                  obtain ⟨i2, hi20⟩ : ∃ z : Nat, z = 0 := ⟨_, rfl⟩
                  obtain ⟨B2, hB02⟩ : ∃ z : gW, z = A := ⟨_, rfl⟩
                  obtain ⟨H2, hH02⟩ : ∃ z : Heap, z = s.heap := ⟨_, rfl⟩
                  obtain ⟨lo2, hlo02⟩ : ∃ z : List Loc, z = [] := ⟨_, rfl⟩
                  obtain ⟨Fx2, hFx02⟩ : ∃ z : Nat → Nat → Int32, z = F := ⟨_, rfl⟩
                  obtain ⟨n2, hn2⟩ : ∃ z : Nat, i2 + z = (kIs σ).length := ⟨(kIs σ).length - i2, by omega⟩
                  replace hl : lv_has ls 8 [(7, .int (nI i2)), (6, .int 1), (5, .int (nI cn)), (0, .ref h), (1, .int (nI mk)), (2, .int (nI mt)), (3, .int md), (4, .int n)] := by rw [hi20, nI_0]; exact hl
                  replace hP : gP D classes b B2 H2 := by rw [hB02, hH02]; exact hP
                  replace hS : gS b s.heap H2 lo2 := by rw [hH02, hlo02]; exact hS
                  have hMi2 : rMM cI cZ cL B2 h ad Fx2 G ((kBu σ).length) ((kRs σ).length) ((kIs σ).length) (kMk σ) := by rw [hB02, hFx02]; exact hM
                  have hRi2 : mRep Fx2 G (kRs σ, upT (gVer (kBu σ) mk mt) i2 (kIs σ), kSt σ, kBu σ, kMk σ) gn := by rw [hFx02, hi20]; exact hR
                  have gli2 : gL A B2 := by rw [hB02]; exact gL.rf
                  rw [← hH02, ← hlo02]
                  clear hi20 hB02 hH02 hlo02 hFx02
                  induction n2 generalizing i2 B2 H2 lo2 Fx2 ls with
                  | zero =>
                    refine lv_iload hx hb d_MM_verify_120 (lv_at hl 0 rfl) ?_
                    refine lv_aload_n hx hb d_MM_verify_122 rfl (lv_at hl 3 rfl) ?_
                    refine g_get hx hb hts i_MM hown hK.1 hP (show B2 (20, 0) = some (h, .inr (5, [.ref (ad 0), .ref (ad 1), .int (nI ((kBu σ).length)), .ref (ad 3), .ref (ad 4), .ref (ad 5), .ref (ad 6), .ref (ad 7), .ref (ad 8), .ref (ad 9), .ref (ad 10), .int (nI ((kRs σ).length)), .ref (ad 12), .ref (ad 13), .ref (ad 14), .ref (ad 15), .ref (ad 16), .ref (ad 17), .ref (ad 18), .ref (ad 19), .ref (ad 20), .ref (ad 21), .int (nI ((kIs σ).length)), .int (nI (kMk σ) - 1)])) from hMi2.1) rfl 22 (by decide) (hts _ k_465) (fun _ h9 => h9) rfl d_MM_verify_123 ?_
                    refine lv_icmp_ge (tgt := 159) hx hb d_MM_verify_126 (by decide) (fun _ => ?_) (fun h9 => absurd (nI_le (show (kIs σ).length ≤ i2 by omega) (by omega)) h9)
                    refine lv_aload_n hx hb d_MM_verify_159 rfl (lv_at hl 3 rfl) ?_
                    refine lv_iconst (v := 0) hx hb d_MM_verify_160 (by decide) ?_
                    refine g_put (ty := .int) (v := .int 0) hx hb hts i_MM t_MM t_MM_ok n_MM hown hK.1 hP hS (show B2 (20, 0) = some (h, .inr (5, [.ref (ad 0), .ref (ad 1), .int (nI ((kBu σ).length)), .ref (ad 3), .ref (ad 4), .ref (ad 5), .ref (ad 6), .ref (ad 7), .ref (ad 8), .ref (ad 9), .ref (ad 10), .int (nI ((kRs σ).length)), .ref (ad 12), .ref (ad 13), .ref (ad 14), .ref (ad 15), .ref (ad 16), .ref (ad 17), .ref (ad 18), .ref (ad 19), .ref (ad 20), .ref (ad 21), .int (nI ((kIs σ).length)), .int (nI (kMk σ) - 1)])) from hMi2.1) rfl 2 (by decide) (hts _ k_445) (fun _ h9 => h9) rfl (by decide +kernel) rfl rfl (Nat.le_of_ble_eq_true rfl) d_MM_verify_161 (fun H locs hP hS => ?_)
                    obtain ⟨A19, eA19⟩ : ∃ z, z = gU B2 (20, 0) (h, .inr (5, [.ref (ad 0), .ref (ad 1), .int 0, .ref (ad 3), .ref (ad 4), .ref (ad 5), .ref (ad 6), .ref (ad 7), .ref (ad 8), .ref (ad 9), .ref (ad 10), .int (nI ((kRs σ).length)), .ref (ad 12), .ref (ad 13), .ref (ad 14), .ref (ad 15), .ref (ad 16), .ref (ad 17), .ref (ad 18), .ref (ad 19), .ref (ad 20), .ref (ad 21), .int (nI ((kIs σ).length)), .int (nI (kMk σ) - 1)])) := ⟨_, rfl⟩
                    replace hP : gP D classes b A19 H := by rw [eA19]; exact hP
                    have hM20 : rMM cI cZ cL A19 h ad Fx2 G 0 ((kRs σ).length) ((kIs σ).length) ((kMk σ)) := by rw [eA19]; exact hMi2.obj
                    have glA19 : gL A A19 := by rw [eA19]; exact gli2.U (by decide)
                    refine lv_iload hx hb d_MM_verify_164 (lv_at hl 1 rfl) ?_
                    refine lv_if_eq (tgt := 174) hx hb d_MM_verify_166 (by decide) (fun h9 => absurd h9 (by decide)) (fun _ => ?_)
                    refine lv_iload hx hb d_MM_verify_169 (lv_at hl 2 rfl) ?_
                    refine lv_goto (tgt := 179) hx hb d_MM_verify_171 (by decide) ?_
                    have hcn : cn = (cnt (qAsk σ mk mt) (kIs σ).length) := by rw [hinv, show i = (kIs σ).length by omega]
                    have hwt : wantd (nI (cnt (qAsk σ mk mt) (kIs σ).length)) md n = true := by rw [← hcn]; simp_all [wantd, ← Int32.not_lt]
                    rw [upT_all _ _ (show (kIs σ).length ≤ i2 by omega)] at hRi2
                    have e9 : sVerify σ (nI mk) (nI mt) md n = ((kRs σ, (kIs σ).map (gVer (kBu σ) mk mt), kSt σ, [], kMk σ), nI (cnt (qAsk σ mk mt) (kIs σ).length)) := by unfold sVerify; rw [if_pos (by simp_all [inR]), hc1, hc2, if_pos (by simp_all), if_pos hwt]
                    refine W.widen (k := 0) (n := 0) (by decide) (by decide) ?_
                    exact W.iret hx hb hr (fun t ht _ => ⟨⟨_, A19, rfl, ⟨by rw [e9]; rw [hcn], by rw [e9]; exact ⟨ad, Fx2, G, (by rw [show ((kIs σ).map (gVer (kBu σ) mk mt)).length = (kIs σ).length from List.length_map _]; exact hM20), hRi2.bu0.cg (hgn0.trans (List.length_map _).symm)⟩, glA19⟩, show gP D classes b A19 t.heap by rw [ht]; exact hP⟩, hS.F ht⟩) hS.2.2 d_MM_verify_179
                  | succ n2 ih2 =>
                    have hti : mIn Fx2 i2 ((kIs σ).getD i2 i0) := by rw [← upT_get (gVer (kBu σ) mk mt) (kIs σ) i0 (Nat.le_refl i2)]; exact hRi2.2.2.2.2.1 i2 (by show i2 < (upT (gVer (kBu σ) mk mt) i2 (kIs σ)).length; rw [upT_len]; omega)
                    obtain ⟨⟨bt1, bt2⟩, bt3⟩ := w4 i2 (by omega)
                    refine lv_iload hx hb d_MM_verify_120 (lv_at hl 0 rfl) ?_
                    refine lv_aload_n hx hb d_MM_verify_122 rfl (lv_at hl 3 rfl) ?_
                    refine g_get hx hb hts i_MM hown hK.1 hP (show B2 (20, 0) = some (h, .inr (5, [.ref (ad 0), .ref (ad 1), .int (nI ((kBu σ).length)), .ref (ad 3), .ref (ad 4), .ref (ad 5), .ref (ad 6), .ref (ad 7), .ref (ad 8), .ref (ad 9), .ref (ad 10), .int (nI ((kRs σ).length)), .ref (ad 12), .ref (ad 13), .ref (ad 14), .ref (ad 15), .ref (ad 16), .ref (ad 17), .ref (ad 18), .ref (ad 19), .ref (ad 20), .ref (ad 21), .int (nI ((kIs σ).length)), .int (nI (kMk σ) - 1)])) from hMi2.1) rfl 22 (by decide) (hts _ k_465) (fun _ h9 => h9) rfl d_MM_verify_123 ?_
                    refine lv_icmp_ge (tgt := 159) hx hb d_MM_verify_126 (by decide) (fun h9 => absurd h9 (nI_ge (show i2 < (kIs σ).length by omega) (by omega))) (fun _ => ?_)
                    refine lv_iload hx hb d_MM_verify_129 (lv_at hl 1 rfl) ?_
                    refine lv_if_eq (tgt := 159) hx hb d_MM_verify_131 (by decide) (fun h9 => absurd h9 (by decide)) (fun _ => ?_)
                    refine lv_aload_n hx hb d_MM_verify_134 rfl (lv_at hl 3 rfl) ?_
                    refine lv_iload hx hb d_MM_verify_135 (lv_at hl 0 rfl) ?_
                    refine lv_iload_n hx hb d_MM_verify_137 rfl (lv_at hl 4 rfl) ?_
                    refine lv_iload_n hx hb d_MM_verify_138 rfl (lv_at hl 5 rfl) ?_
                    refine g_ri (g_runV (As := [.int (nI i2), .int (nI mk), .int (nI mt)]) (rest := []) ⟨hx, hb, hml, hown, hts⟩ (c_MM_asked l hMi2 (bu := kBu σ) (show i2 < 160 by omega) hti bt1 bt2 (by omega) (by omega) w5 hRi2.1 w6) st_MM_asked k_575 ⟨rfl, rfl, by decide, by decide⟩ rfl (gI.preV hK hS hP (show B2 (20, 0) = some (h, .inr (5, [.ref (ad 0), .ref (ad 1), .int (nI ((kBu σ).length)), .ref (ad 3), .ref (ad 4), .ref (ad 5), .ref (ad 6), .ref (ad 7), .ref (ad 8), .ref (ad 9), .ref (ad 10), .int (nI ((kRs σ).length)), .ref (ad 12), .ref (ad 13), .ref (ad 14), .ref (ad 15), .ref (ad 16), .ref (ad 17), .ref (ad 18), .ref (ad 19), .ref (ad 20), .ref (ad 21), .int (nI ((kIs σ).length)), .int (nI (kMk σ) - 1)])) from hMi2.1) rfl _) rfl hl.1 rfl (Nat.le_of_ble_eq_true rfl) d_MM_verify_139 ⟨by decide, by decide⟩) (fun r24 hr24 => ?_)
                    subst hr24
                    refine lv_if_eq (tgt := 153) hx hb d_MM_verify_142 (by decide) (fun c25 => ?_) (fun c25 => ?_)
                    · skip
                      rw [bI_0] at c25
                      refine lv_iinc (v := nI (i2 + 1)) (lv' := [(7, .int (nI (i2 + 1))), (6, .int 1), (5, .int (nI cn)), (0, .ref h), (1, .int (nI mk)), (2, .int (nI mt)), (3, .int md), (4, .int n)]) hx hb d_MM_verify_153 hl (k := 0) rfl (nI_1 _) (by decide) rfl (fun ls hl => ?_)
                      refine lv_goto (tgt := 120) hx hb d_MM_verify_156 (by decide) ?_
                      exact ih2 _ _ _ _ _ _ (by omega) (lv_sub hl [0, 1, 2, 3, 4, 5, 6, 7] rfl) hP hS hMi2 (by rw [upT_k _ _ i0 (by omega) (by simp_all [gVer])]; exact hRi2) gli2
                    · skip
                      rw [bI_0] at c25
                      refine lv_aload_n hx hb d_MM_verify_145 rfl (lv_at hl 3 rfl) ?_
                      refine g_get hx hb hts i_MM hown hK.1 hP (show B2 (20, 0) = some (h, .inr (5, [.ref (ad 0), .ref (ad 1), .int (nI ((kBu σ).length)), .ref (ad 3), .ref (ad 4), .ref (ad 5), .ref (ad 6), .ref (ad 7), .ref (ad 8), .ref (ad 9), .ref (ad 10), .int (nI ((kRs σ).length)), .ref (ad 12), .ref (ad 13), .ref (ad 14), .ref (ad 15), .ref (ad 16), .ref (ad 17), .ref (ad 18), .ref (ad 19), .ref (ad 20), .ref (ad 21), .int (nI ((kIs σ).length)), .int (nI (kMk σ) - 1)])) from hMi2.1) rfl 21 (by decide) (hts _ k_464) (fun _ h9 => h9) rfl d_MM_verify_146 ?_
                      refine lv_iload hx hb d_MM_verify_149 (lv_at hl 0 rfl) ?_
                      refine lv_iconst (v := 1) hx hb d_MM_verify_151 (by decide) ?_
                      refine g_zast (k := i2) hx hb hK.1 hP hS 1 (show B2 (42, 0) = some (ad 21, .inl (cZ, 160, .inl (Fx2 21))) from hMi2.2.1 21 rfl) rfl (vp_in_nI (show i2 < 160 by omega) (by omega)) (nI_clamp (show i2 < 2 ^ 31 by omega)) rfl d_MM_verify_152 (fun H locs hP hS => ?_)
                      obtain ⟨A26, eA26⟩ : ∃ z, z = gU B2 (42, 0) (ad 21, .inl (cZ, 160, .inl (upd (Fx2 21) (i2) (1)))) := ⟨_, rfl⟩
                      replace hP : gP D classes b A26 H := by rw [eA26]; exact hP
                      have hM27 : rMM cI cZ cL A26 h ad (va_up Fx2 21 (upd (Fx2 21) (i2) (1))) G ((kBu σ).length) ((kRs σ).length) ((kIs σ).length) (kMk σ) := by rw [eA26]; exact hMi2.put 21 rfl _
                      have glA26 : gL A A26 := by rw [eA26]; exact gli2.U (by decide)
                      refine lv_iinc (v := nI (i2 + 1)) (lv' := [(7, .int (nI (i2 + 1))), (6, .int 1), (5, .int (nI cn)), (0, .ref h), (1, .int (nI mk)), (2, .int (nI mt)), (3, .int md), (4, .int n)]) hx hb d_MM_verify_153 hl (k := 0) rfl (nI_1 _) (by decide) rfl (fun ls hl => ?_)
                      refine lv_goto (tgt := 120) hx hb d_MM_verify_156 (by decide) ?_
                      exact ih2 _ _ _ _ _ _ (by omega) (lv_sub hl [0, 1, 2, 3, 4, 5, 6, 7] rfl) hP hS hM27 (by rw [upT_s _ _ i0 (by omega), show gVer (kBu σ) mk mt ((kIs σ).getD i2 i0) = iVer ((upT (gVer (kBu σ) mk mt) i2 (kIs σ)).getD i2 i0) by rw [upT_get _ _ _ (Nat.le_refl i2)]; simp_all [gVer]]; exact hRi2.ver (i := i2) (by show i2 < (upT (gVer (kBu σ) mk mt) i2 (kIs σ)).length; rw [upT_len]; omega)) glA26
              · skip
                refine lv_iload hx hb d_MM_verify_88 (lv_at hl 1 rfl) ?_
                refine lv_iload hx hb d_MM_verify_90 (lv_at hl 6 rfl) ?_
                refine lv_icmp_lt (tgt := 99) hx hb d_MM_verify_92 (by decide) (fun c28 => ?_) (fun c28 => ?_)
                · skip
                  refine lv_iconst (v := 0) hx hb d_MM_verify_99 (by decide) ?_
                  refine lv_goto (tgt := 115) hx hb d_MM_verify_100 (by decide) ?_
                  refine lv_istore (lv' := [(6, .int 0), (5, .int (nI cn)), (0, .ref h), (1, .int (nI mk)), (2, .int (nI mt)), (3, .int md), (4, .int n)]) hx hb d_MM_verify_115 hl (by decide) rfl (fun ls hl => ?_)
                  refine lv_iconst (v := 0) hx hb d_MM_verify_117 (by decide) ?_
                  refine lv_istore (lv' := [(7, .int 0), (6, .int 0), (5, .int (nI cn)), (0, .ref h), (1, .int (nI mk)), (2, .int (nI mt)), (3, .int md), (4, .int n)]) hx hb d_MM_verify_118 hl (by decide) rfl (fun ls hl => ?_)
                  refine lv_iload hx hb d_MM_verify_120 (lv_at hl 0 rfl) ?_
                  refine lv_aload_n hx hb d_MM_verify_122 rfl (lv_at hl 3 rfl) ?_
                  refine g_get hx hb hts i_MM hown hK.1 hP (show A (20, 0) = some (h, .inr (5, [.ref (ad 0), .ref (ad 1), .int (nI ((kBu σ).length)), .ref (ad 3), .ref (ad 4), .ref (ad 5), .ref (ad 6), .ref (ad 7), .ref (ad 8), .ref (ad 9), .ref (ad 10), .int (nI ((kRs σ).length)), .ref (ad 12), .ref (ad 13), .ref (ad 14), .ref (ad 15), .ref (ad 16), .ref (ad 17), .ref (ad 18), .ref (ad 19), .ref (ad 20), .ref (ad 21), .int (nI ((kIs σ).length)), .int (nI (kMk σ) - 1)])) from hM.1) rfl 22 (by decide) (hts _ k_465) (fun _ h9 => h9) rfl d_MM_verify_123 ?_
                  refine lv_icmp_ge (tgt := 159) hx hb d_MM_verify_126 (by decide) (fun c29 => ?_) (fun c29 => ?_)
                  · skip
                    replace c29 : (kIs σ).length ≤ 0 := (nI_leI (a := (kIs σ).length) (b := 0) (by omega) (by decide)).mp c29
                    refine lv_aload_n hx hb d_MM_verify_159 rfl (lv_at hl 3 rfl) ?_
                    refine lv_iconst (v := 0) hx hb d_MM_verify_160 (by decide) ?_
                    refine g_put (ty := .int) (v := .int 0) hx hb hts i_MM t_MM t_MM_ok n_MM hown hK.1 hP hS (show A (20, 0) = some (h, .inr (5, [.ref (ad 0), .ref (ad 1), .int (nI ((kBu σ).length)), .ref (ad 3), .ref (ad 4), .ref (ad 5), .ref (ad 6), .ref (ad 7), .ref (ad 8), .ref (ad 9), .ref (ad 10), .int (nI ((kRs σ).length)), .ref (ad 12), .ref (ad 13), .ref (ad 14), .ref (ad 15), .ref (ad 16), .ref (ad 17), .ref (ad 18), .ref (ad 19), .ref (ad 20), .ref (ad 21), .int (nI ((kIs σ).length)), .int (nI (kMk σ) - 1)])) from hM.1) rfl 2 (by decide) (hts _ k_445) (fun _ h9 => h9) rfl (by decide +kernel) rfl rfl (Nat.le_of_ble_eq_true rfl) d_MM_verify_161 (fun H locs hP hS => ?_)
                    obtain ⟨A30, eA30⟩ : ∃ z, z = gU A (20, 0) (h, .inr (5, [.ref (ad 0), .ref (ad 1), .int 0, .ref (ad 3), .ref (ad 4), .ref (ad 5), .ref (ad 6), .ref (ad 7), .ref (ad 8), .ref (ad 9), .ref (ad 10), .int (nI ((kRs σ).length)), .ref (ad 12), .ref (ad 13), .ref (ad 14), .ref (ad 15), .ref (ad 16), .ref (ad 17), .ref (ad 18), .ref (ad 19), .ref (ad 20), .ref (ad 21), .int (nI ((kIs σ).length)), .int (nI (kMk σ) - 1)])) := ⟨_, rfl⟩
                    replace hP : gP D classes b A30 H := by rw [eA30]; exact hP
                    have hM31 : rMM cI cZ cL A30 h ad F G 0 ((kRs σ).length) ((kIs σ).length) ((kMk σ)) := by rw [eA30]; exact hM.obj
                    have glA30 : gL A A30 := by rw [eA30]; exact gL.rf.U (by decide)
                    refine lv_iload hx hb d_MM_verify_164 (lv_at hl 1 rfl) ?_
                    refine lv_if_eq (tgt := 174) hx hb d_MM_verify_166 (by decide) (fun _ => ?_) (fun h9 => absurd (by decide) h9)
                    refine lv_bipush (v := (-10)) hx hb d_MM_verify_174 (by decide) ?_
                    refine lv_iload hx hb d_MM_verify_176 (lv_at hl 2 rfl) ?_
                    refine lv_isub hx hb d_MM_verify_178 ?_
                    have hcn : cn = (cnt (qAsk σ mk mt) (kIs σ).length) := by rw [hinv, show i = (kIs σ).length by omega]
                    have hwt : wantd (nI (cnt (qAsk σ mk mt) (kIs σ).length)) md n = false := by rw [← hcn]; simp_all [wantd, ← Int32.not_lt]
                    have e9 : sVerify σ (nI mk) (nI mt) md n = ((kRs σ, kIs σ, kSt σ, [], kMk σ), -10 - nI (cnt (qAsk σ mk mt) (kIs σ).length)) := by unfold sVerify; rw [if_pos (by simp_all [inR]), hc1, hc2, if_pos (by simp_all), if_neg (by rw [hwt]; decide)]
                    refine W.widen (k := 0) (n := 0) (by decide) (by decide) ?_
                    exact W.iret hx hb hr (fun t ht _ => ⟨⟨_, A30, rfl, ⟨by rw [e9]; rw [hcn], by rw [e9]; exact ⟨ad, F, G, hM31, hR.bu0⟩, glA30⟩, show gP D classes b A30 t.heap by rw [ht]; exact hP⟩, hS.F ht⟩) hS.2.2 d_MM_verify_179
                  · skip
                    replace c29 : ¬ (kIs σ).length ≤ 0 := fun q => c29 ((nI_leI (a := (kIs σ).length) (b := 0) (by omega) (by decide)).mpr q)
                    refine lv_iload hx hb d_MM_verify_129 (lv_at hl 1 rfl) ?_
                    refine lv_if_eq (tgt := 159) hx hb d_MM_verify_131 (by decide) (fun _ => ?_) (fun h9 => absurd (by decide) h9)
                    refine lv_aload_n hx hb d_MM_verify_159 rfl (lv_at hl 3 rfl) ?_
                    refine lv_iconst (v := 0) hx hb d_MM_verify_160 (by decide) ?_
                    refine g_put (ty := .int) (v := .int 0) hx hb hts i_MM t_MM t_MM_ok n_MM hown hK.1 hP hS (show A (20, 0) = some (h, .inr (5, [.ref (ad 0), .ref (ad 1), .int (nI ((kBu σ).length)), .ref (ad 3), .ref (ad 4), .ref (ad 5), .ref (ad 6), .ref (ad 7), .ref (ad 8), .ref (ad 9), .ref (ad 10), .int (nI ((kRs σ).length)), .ref (ad 12), .ref (ad 13), .ref (ad 14), .ref (ad 15), .ref (ad 16), .ref (ad 17), .ref (ad 18), .ref (ad 19), .ref (ad 20), .ref (ad 21), .int (nI ((kIs σ).length)), .int (nI (kMk σ) - 1)])) from hM.1) rfl 2 (by decide) (hts _ k_445) (fun _ h9 => h9) rfl (by decide +kernel) rfl rfl (Nat.le_of_ble_eq_true rfl) d_MM_verify_161 (fun H locs hP hS => ?_)
                    obtain ⟨A34, eA34⟩ : ∃ z, z = gU A (20, 0) (h, .inr (5, [.ref (ad 0), .ref (ad 1), .int 0, .ref (ad 3), .ref (ad 4), .ref (ad 5), .ref (ad 6), .ref (ad 7), .ref (ad 8), .ref (ad 9), .ref (ad 10), .int (nI ((kRs σ).length)), .ref (ad 12), .ref (ad 13), .ref (ad 14), .ref (ad 15), .ref (ad 16), .ref (ad 17), .ref (ad 18), .ref (ad 19), .ref (ad 20), .ref (ad 21), .int (nI ((kIs σ).length)), .int (nI (kMk σ) - 1)])) := ⟨_, rfl⟩
                    replace hP : gP D classes b A34 H := by rw [eA34]; exact hP
                    have hM35 : rMM cI cZ cL A34 h ad F G 0 ((kRs σ).length) ((kIs σ).length) ((kMk σ)) := by rw [eA34]; exact hM.obj
                    have glA34 : gL A A34 := by rw [eA34]; exact gL.rf.U (by decide)
                    refine lv_iload hx hb d_MM_verify_164 (lv_at hl 1 rfl) ?_
                    refine lv_if_eq (tgt := 174) hx hb d_MM_verify_166 (by decide) (fun _ => ?_) (fun h9 => absurd (by decide) h9)
                    refine lv_bipush (v := (-10)) hx hb d_MM_verify_174 (by decide) ?_
                    refine lv_iload hx hb d_MM_verify_176 (lv_at hl 2 rfl) ?_
                    refine lv_isub hx hb d_MM_verify_178 ?_
                    have hcn : cn = (cnt (qAsk σ mk mt) (kIs σ).length) := by rw [hinv, show i = (kIs σ).length by omega]
                    have hwt : wantd (nI (cnt (qAsk σ mk mt) (kIs σ).length)) md n = false := by rw [← hcn]; simp_all [wantd, ← Int32.not_lt]
                    have e9 : sVerify σ (nI mk) (nI mt) md n = ((kRs σ, kIs σ, kSt σ, [], kMk σ), -10 - nI (cnt (qAsk σ mk mt) (kIs σ).length)) := by unfold sVerify; rw [if_pos (by simp_all [inR]), hc1, hc2, if_pos (by simp_all), if_neg (by rw [hwt]; decide)]
                    refine W.widen (k := 0) (n := 0) (by decide) (by decide) ?_
                    exact W.iret hx hb hr (fun t ht _ => ⟨⟨_, A34, rfl, ⟨by rw [e9]; rw [hcn], by rw [e9]; exact ⟨ad, F, G, hM35, hR.bu0⟩, glA34⟩, show gP D classes b A34 t.heap by rw [ht]; exact hP⟩, hS.F ht⟩) hS.2.2 d_MM_verify_179
                · skip
                  refine lv_iconst (v := 1) hx hb d_MM_verify_95 (by decide) ?_
                  refine lv_goto (tgt := 115) hx hb d_MM_verify_96 (by decide) ?_
                  refine lv_istore (lv' := [(6, .int 1), (5, .int (nI cn)), (0, .ref h), (1, .int (nI mk)), (2, .int (nI mt)), (3, .int md), (4, .int n)]) hx hb d_MM_verify_115 hl (by decide) rfl (fun ls hl => ?_)
                  refine lv_iconst (v := 0) hx hb d_MM_verify_117 (by decide) ?_
                  refine lv_istore (lv' := [(7, .int 0), (6, .int 1), (5, .int (nI cn)), (0, .ref h), (1, .int (nI mk)), (2, .int (nI mt)), (3, .int md), (4, .int n)]) hx hb d_MM_verify_118 hl (by decide) rfl (fun ls hl => ?_)
                  obtain ⟨gn, hgn0⟩ : ∃ z : Nat, z = (kIs σ).length := ⟨_, rfl⟩
                  rw [← hgn0] at hR
                  obtain ⟨i2, hi20⟩ : ∃ z : Nat, z = 0 := ⟨_, rfl⟩
                  obtain ⟨B2, hB02⟩ : ∃ z : gW, z = A := ⟨_, rfl⟩
                  obtain ⟨H2, hH02⟩ : ∃ z : Heap, z = s.heap := ⟨_, rfl⟩
                  obtain ⟨lo2, hlo02⟩ : ∃ z : List Loc, z = [] := ⟨_, rfl⟩
                  obtain ⟨Fx2, hFx02⟩ : ∃ z : Nat → Nat → Int32, z = F := ⟨_, rfl⟩
                  obtain ⟨n2, hn2⟩ : ∃ z : Nat, i2 + z = (kIs σ).length := ⟨(kIs σ).length - i2, by omega⟩
                  replace hl : lv_has ls 8 [(7, .int (nI i2)), (6, .int 1), (5, .int (nI cn)), (0, .ref h), (1, .int (nI mk)), (2, .int (nI mt)), (3, .int md), (4, .int n)] := by rw [hi20, nI_0]; exact hl
                  replace hP : gP D classes b B2 H2 := by rw [hB02, hH02]; exact hP
                  replace hS : gS b s.heap H2 lo2 := by rw [hH02, hlo02]; exact hS
                  have hMi2 : rMM cI cZ cL B2 h ad Fx2 G ((kBu σ).length) ((kRs σ).length) ((kIs σ).length) (kMk σ) := by rw [hB02, hFx02]; exact hM
                  have hRi2 : mRep Fx2 G (kRs σ, upT (gVer (kBu σ) mk mt) i2 (kIs σ), kSt σ, kBu σ, kMk σ) gn := by rw [hFx02, hi20]; exact hR
                  have gli2 : gL A B2 := by rw [hB02]; exact gL.rf
                  rw [← hH02, ← hlo02]
                  clear hi20 hB02 hH02 hlo02 hFx02
                  induction n2 generalizing i2 B2 H2 lo2 Fx2 ls with
                  | zero =>
                    refine lv_iload hx hb d_MM_verify_120 (lv_at hl 0 rfl) ?_
                    refine lv_aload_n hx hb d_MM_verify_122 rfl (lv_at hl 3 rfl) ?_
                    refine g_get hx hb hts i_MM hown hK.1 hP (show B2 (20, 0) = some (h, .inr (5, [.ref (ad 0), .ref (ad 1), .int (nI ((kBu σ).length)), .ref (ad 3), .ref (ad 4), .ref (ad 5), .ref (ad 6), .ref (ad 7), .ref (ad 8), .ref (ad 9), .ref (ad 10), .int (nI ((kRs σ).length)), .ref (ad 12), .ref (ad 13), .ref (ad 14), .ref (ad 15), .ref (ad 16), .ref (ad 17), .ref (ad 18), .ref (ad 19), .ref (ad 20), .ref (ad 21), .int (nI ((kIs σ).length)), .int (nI (kMk σ) - 1)])) from hMi2.1) rfl 22 (by decide) (hts _ k_465) (fun _ h9 => h9) rfl d_MM_verify_123 ?_
                    refine lv_icmp_ge (tgt := 159) hx hb d_MM_verify_126 (by decide) (fun _ => ?_) (fun h9 => absurd (nI_le (show (kIs σ).length ≤ i2 by omega) (by omega)) h9)
                    refine lv_aload_n hx hb d_MM_verify_159 rfl (lv_at hl 3 rfl) ?_
                    refine lv_iconst (v := 0) hx hb d_MM_verify_160 (by decide) ?_
                    refine g_put (ty := .int) (v := .int 0) hx hb hts i_MM t_MM t_MM_ok n_MM hown hK.1 hP hS (show B2 (20, 0) = some (h, .inr (5, [.ref (ad 0), .ref (ad 1), .int (nI ((kBu σ).length)), .ref (ad 3), .ref (ad 4), .ref (ad 5), .ref (ad 6), .ref (ad 7), .ref (ad 8), .ref (ad 9), .ref (ad 10), .int (nI ((kRs σ).length)), .ref (ad 12), .ref (ad 13), .ref (ad 14), .ref (ad 15), .ref (ad 16), .ref (ad 17), .ref (ad 18), .ref (ad 19), .ref (ad 20), .ref (ad 21), .int (nI ((kIs σ).length)), .int (nI (kMk σ) - 1)])) from hMi2.1) rfl 2 (by decide) (hts _ k_445) (fun _ h9 => h9) rfl (by decide +kernel) rfl rfl (Nat.le_of_ble_eq_true rfl) d_MM_verify_161 (fun H locs hP hS => ?_)
                    obtain ⟨A38, eA38⟩ : ∃ z, z = gU B2 (20, 0) (h, .inr (5, [.ref (ad 0), .ref (ad 1), .int 0, .ref (ad 3), .ref (ad 4), .ref (ad 5), .ref (ad 6), .ref (ad 7), .ref (ad 8), .ref (ad 9), .ref (ad 10), .int (nI ((kRs σ).length)), .ref (ad 12), .ref (ad 13), .ref (ad 14), .ref (ad 15), .ref (ad 16), .ref (ad 17), .ref (ad 18), .ref (ad 19), .ref (ad 20), .ref (ad 21), .int (nI ((kIs σ).length)), .int (nI (kMk σ) - 1)])) := ⟨_, rfl⟩
                    replace hP : gP D classes b A38 H := by rw [eA38]; exact hP
                    have hM39 : rMM cI cZ cL A38 h ad Fx2 G 0 ((kRs σ).length) ((kIs σ).length) ((kMk σ)) := by rw [eA38]; exact hMi2.obj
                    have glA38 : gL A A38 := by rw [eA38]; exact gli2.U (by decide)
                    refine lv_iload hx hb d_MM_verify_164 (lv_at hl 1 rfl) ?_
                    refine lv_if_eq (tgt := 174) hx hb d_MM_verify_166 (by decide) (fun h9 => absurd h9 (by decide)) (fun _ => ?_)
                    refine lv_iload hx hb d_MM_verify_169 (lv_at hl 2 rfl) ?_
                    refine lv_goto (tgt := 179) hx hb d_MM_verify_171 (by decide) ?_
                    have hcn : cn = (cnt (qAsk σ mk mt) (kIs σ).length) := by rw [hinv, show i = (kIs σ).length by omega]
                    have hwt : wantd (nI (cnt (qAsk σ mk mt) (kIs σ).length)) md n = true := by rw [← hcn]; simp_all [wantd, ← Int32.not_lt]
                    rw [upT_all _ _ (show (kIs σ).length ≤ i2 by omega)] at hRi2
                    have e9 : sVerify σ (nI mk) (nI mt) md n = ((kRs σ, (kIs σ).map (gVer (kBu σ) mk mt), kSt σ, [], kMk σ), nI (cnt (qAsk σ mk mt) (kIs σ).length)) := by unfold sVerify; rw [if_pos (by simp_all [inR]), hc1, hc2, if_pos (by simp_all), if_pos hwt]
                    refine W.widen (k := 0) (n := 0) (by decide) (by decide) ?_
                    exact W.iret hx hb hr (fun t ht _ => ⟨⟨_, A38, rfl, ⟨by rw [e9]; rw [hcn], by rw [e9]; exact ⟨ad, Fx2, G, (by rw [show ((kIs σ).map (gVer (kBu σ) mk mt)).length = (kIs σ).length from List.length_map _]; exact hM39), hRi2.bu0.cg (hgn0.trans (List.length_map _).symm)⟩, glA38⟩, show gP D classes b A38 t.heap by rw [ht]; exact hP⟩, hS.F ht⟩) hS.2.2 d_MM_verify_179
                  | succ n2 ih2 =>
                    have hti : mIn Fx2 i2 ((kIs σ).getD i2 i0) := by rw [← upT_get (gVer (kBu σ) mk mt) (kIs σ) i0 (Nat.le_refl i2)]; exact hRi2.2.2.2.2.1 i2 (by show i2 < (upT (gVer (kBu σ) mk mt) i2 (kIs σ)).length; rw [upT_len]; omega)
                    obtain ⟨⟨bt1, bt2⟩, bt3⟩ := w4 i2 (by omega)
                    refine lv_iload hx hb d_MM_verify_120 (lv_at hl 0 rfl) ?_
                    refine lv_aload_n hx hb d_MM_verify_122 rfl (lv_at hl 3 rfl) ?_
                    refine g_get hx hb hts i_MM hown hK.1 hP (show B2 (20, 0) = some (h, .inr (5, [.ref (ad 0), .ref (ad 1), .int (nI ((kBu σ).length)), .ref (ad 3), .ref (ad 4), .ref (ad 5), .ref (ad 6), .ref (ad 7), .ref (ad 8), .ref (ad 9), .ref (ad 10), .int (nI ((kRs σ).length)), .ref (ad 12), .ref (ad 13), .ref (ad 14), .ref (ad 15), .ref (ad 16), .ref (ad 17), .ref (ad 18), .ref (ad 19), .ref (ad 20), .ref (ad 21), .int (nI ((kIs σ).length)), .int (nI (kMk σ) - 1)])) from hMi2.1) rfl 22 (by decide) (hts _ k_465) (fun _ h9 => h9) rfl d_MM_verify_123 ?_
                    refine lv_icmp_ge (tgt := 159) hx hb d_MM_verify_126 (by decide) (fun h9 => absurd h9 (nI_ge (show i2 < (kIs σ).length by omega) (by omega))) (fun _ => ?_)
                    refine lv_iload hx hb d_MM_verify_129 (lv_at hl 1 rfl) ?_
                    refine lv_if_eq (tgt := 159) hx hb d_MM_verify_131 (by decide) (fun h9 => absurd h9 (by decide)) (fun _ => ?_)
                    refine lv_aload_n hx hb d_MM_verify_134 rfl (lv_at hl 3 rfl) ?_
                    refine lv_iload hx hb d_MM_verify_135 (lv_at hl 0 rfl) ?_
                    refine lv_iload_n hx hb d_MM_verify_137 rfl (lv_at hl 4 rfl) ?_
                    refine lv_iload_n hx hb d_MM_verify_138 rfl (lv_at hl 5 rfl) ?_
                    refine g_ri (g_runV (As := [.int (nI i2), .int (nI mk), .int (nI mt)]) (rest := []) ⟨hx, hb, hml, hown, hts⟩ (c_MM_asked l hMi2 (bu := kBu σ) (show i2 < 160 by omega) hti bt1 bt2 (by omega) (by omega) w5 hRi2.1 w6) st_MM_asked k_575 ⟨rfl, rfl, by decide, by decide⟩ rfl (gI.preV hK hS hP (show B2 (20, 0) = some (h, .inr (5, [.ref (ad 0), .ref (ad 1), .int (nI ((kBu σ).length)), .ref (ad 3), .ref (ad 4), .ref (ad 5), .ref (ad 6), .ref (ad 7), .ref (ad 8), .ref (ad 9), .ref (ad 10), .int (nI ((kRs σ).length)), .ref (ad 12), .ref (ad 13), .ref (ad 14), .ref (ad 15), .ref (ad 16), .ref (ad 17), .ref (ad 18), .ref (ad 19), .ref (ad 20), .ref (ad 21), .int (nI ((kIs σ).length)), .int (nI (kMk σ) - 1)])) from hMi2.1) rfl _) rfl hl.1 rfl (Nat.le_of_ble_eq_true rfl) d_MM_verify_139 ⟨by decide, by decide⟩) (fun r43 hr43 => ?_)
                    subst hr43
                    refine lv_if_eq (tgt := 153) hx hb d_MM_verify_142 (by decide) (fun c44 => ?_) (fun c44 => ?_)
                    · skip
                      rw [bI_0] at c44
                      refine lv_iinc (v := nI (i2 + 1)) (lv' := [(7, .int (nI (i2 + 1))), (6, .int 1), (5, .int (nI cn)), (0, .ref h), (1, .int (nI mk)), (2, .int (nI mt)), (3, .int md), (4, .int n)]) hx hb d_MM_verify_153 hl (k := 0) rfl (nI_1 _) (by decide) rfl (fun ls hl => ?_)
                      refine lv_goto (tgt := 120) hx hb d_MM_verify_156 (by decide) ?_
                      exact ih2 _ _ _ _ _ _ (by omega) (lv_sub hl [0, 1, 2, 3, 4, 5, 6, 7] rfl) hP hS hMi2 (by rw [upT_k _ _ i0 (by omega) (by simp_all [gVer])]; exact hRi2) gli2
                    · skip
                      rw [bI_0] at c44
                      refine lv_aload_n hx hb d_MM_verify_145 rfl (lv_at hl 3 rfl) ?_
                      refine g_get hx hb hts i_MM hown hK.1 hP (show B2 (20, 0) = some (h, .inr (5, [.ref (ad 0), .ref (ad 1), .int (nI ((kBu σ).length)), .ref (ad 3), .ref (ad 4), .ref (ad 5), .ref (ad 6), .ref (ad 7), .ref (ad 8), .ref (ad 9), .ref (ad 10), .int (nI ((kRs σ).length)), .ref (ad 12), .ref (ad 13), .ref (ad 14), .ref (ad 15), .ref (ad 16), .ref (ad 17), .ref (ad 18), .ref (ad 19), .ref (ad 20), .ref (ad 21), .int (nI ((kIs σ).length)), .int (nI (kMk σ) - 1)])) from hMi2.1) rfl 21 (by decide) (hts _ k_464) (fun _ h9 => h9) rfl d_MM_verify_146 ?_
                      refine lv_iload hx hb d_MM_verify_149 (lv_at hl 0 rfl) ?_
                      refine lv_iconst (v := 1) hx hb d_MM_verify_151 (by decide) ?_
                      refine g_zast (k := i2) hx hb hK.1 hP hS 1 (show B2 (42, 0) = some (ad 21, .inl (cZ, 160, .inl (Fx2 21))) from hMi2.2.1 21 rfl) rfl (vp_in_nI (show i2 < 160 by omega) (by omega)) (nI_clamp (show i2 < 2 ^ 31 by omega)) rfl d_MM_verify_152 (fun H locs hP hS => ?_)
                      obtain ⟨A45, eA45⟩ : ∃ z, z = gU B2 (42, 0) (ad 21, .inl (cZ, 160, .inl (upd (Fx2 21) (i2) (1)))) := ⟨_, rfl⟩
                      replace hP : gP D classes b A45 H := by rw [eA45]; exact hP
                      have hM46 : rMM cI cZ cL A45 h ad (va_up Fx2 21 (upd (Fx2 21) (i2) (1))) G ((kBu σ).length) ((kRs σ).length) ((kIs σ).length) (kMk σ) := by rw [eA45]; exact hMi2.put 21 rfl _
                      have glA45 : gL A A45 := by rw [eA45]; exact gli2.U (by decide)
                      refine lv_iinc (v := nI (i2 + 1)) (lv' := [(7, .int (nI (i2 + 1))), (6, .int 1), (5, .int (nI cn)), (0, .ref h), (1, .int (nI mk)), (2, .int (nI mt)), (3, .int md), (4, .int n)]) hx hb d_MM_verify_153 hl (k := 0) rfl (nI_1 _) (by decide) rfl (fun ls hl => ?_)
                      refine lv_goto (tgt := 120) hx hb d_MM_verify_156 (by decide) ?_
                      exact ih2 _ _ _ _ _ _ (by omega) (lv_sub hl [0, 1, 2, 3, 4, 5, 6, 7] rfl) hP hS hM46 (by rw [upT_s _ _ i0 (by omega), show gVer (kBu σ) mk mt ((kIs σ).getD i2 i0) = iVer ((upT (gVer (kBu σ) mk mt) i2 (kIs σ)).getD i2 i0) by rw [upT_get _ _ _ (Nat.le_refl i2)]; simp_all [gVer]]; exact hRi2.ver (i := i2) (by show i2 < (upT (gVer (kBu σ) mk mt) i2 (kIs σ)).length; rw [upT_len]; omega)) glA45
            · skip
              refine lv_iload hx hb d_MM_verify_68 (lv_at hl 1 rfl) ?_
              refine lv_iload hx hb d_MM_verify_70 (lv_at hl 6 rfl) ?_
              refine lv_icmp_ne (tgt := 79) hx hb d_MM_verify_72 (by decide) (fun c47 => ?_) (fun c47 => ?_)
              · skip
                refine lv_iconst (v := 0) hx hb d_MM_verify_79 (by decide) ?_
                refine lv_goto (tgt := 115) hx hb d_MM_verify_80 (by decide) ?_
                refine lv_istore (lv' := [(6, .int 0), (5, .int (nI cn)), (0, .ref h), (1, .int (nI mk)), (2, .int (nI mt)), (3, .int md), (4, .int n)]) hx hb d_MM_verify_115 hl (by decide) rfl (fun ls hl => ?_)
                refine lv_iconst (v := 0) hx hb d_MM_verify_117 (by decide) ?_
                refine lv_istore (lv' := [(7, .int 0), (6, .int 0), (5, .int (nI cn)), (0, .ref h), (1, .int (nI mk)), (2, .int (nI mt)), (3, .int md), (4, .int n)]) hx hb d_MM_verify_118 hl (by decide) rfl (fun ls hl => ?_)
                refine lv_iload hx hb d_MM_verify_120 (lv_at hl 0 rfl) ?_
                refine lv_aload_n hx hb d_MM_verify_122 rfl (lv_at hl 3 rfl) ?_
                refine g_get hx hb hts i_MM hown hK.1 hP (show A (20, 0) = some (h, .inr (5, [.ref (ad 0), .ref (ad 1), .int (nI ((kBu σ).length)), .ref (ad 3), .ref (ad 4), .ref (ad 5), .ref (ad 6), .ref (ad 7), .ref (ad 8), .ref (ad 9), .ref (ad 10), .int (nI ((kRs σ).length)), .ref (ad 12), .ref (ad 13), .ref (ad 14), .ref (ad 15), .ref (ad 16), .ref (ad 17), .ref (ad 18), .ref (ad 19), .ref (ad 20), .ref (ad 21), .int (nI ((kIs σ).length)), .int (nI (kMk σ) - 1)])) from hM.1) rfl 22 (by decide) (hts _ k_465) (fun _ h9 => h9) rfl d_MM_verify_123 ?_
                refine lv_icmp_ge (tgt := 159) hx hb d_MM_verify_126 (by decide) (fun c48 => ?_) (fun c48 => ?_)
                · skip
                  replace c48 : (kIs σ).length ≤ 0 := (nI_leI (a := (kIs σ).length) (b := 0) (by omega) (by decide)).mp c48
                  refine lv_aload_n hx hb d_MM_verify_159 rfl (lv_at hl 3 rfl) ?_
                  refine lv_iconst (v := 0) hx hb d_MM_verify_160 (by decide) ?_
                  refine g_put (ty := .int) (v := .int 0) hx hb hts i_MM t_MM t_MM_ok n_MM hown hK.1 hP hS (show A (20, 0) = some (h, .inr (5, [.ref (ad 0), .ref (ad 1), .int (nI ((kBu σ).length)), .ref (ad 3), .ref (ad 4), .ref (ad 5), .ref (ad 6), .ref (ad 7), .ref (ad 8), .ref (ad 9), .ref (ad 10), .int (nI ((kRs σ).length)), .ref (ad 12), .ref (ad 13), .ref (ad 14), .ref (ad 15), .ref (ad 16), .ref (ad 17), .ref (ad 18), .ref (ad 19), .ref (ad 20), .ref (ad 21), .int (nI ((kIs σ).length)), .int (nI (kMk σ) - 1)])) from hM.1) rfl 2 (by decide) (hts _ k_445) (fun _ h9 => h9) rfl (by decide +kernel) rfl rfl (Nat.le_of_ble_eq_true rfl) d_MM_verify_161 (fun H locs hP hS => ?_)
                  obtain ⟨A49, eA49⟩ : ∃ z, z = gU A (20, 0) (h, .inr (5, [.ref (ad 0), .ref (ad 1), .int 0, .ref (ad 3), .ref (ad 4), .ref (ad 5), .ref (ad 6), .ref (ad 7), .ref (ad 8), .ref (ad 9), .ref (ad 10), .int (nI ((kRs σ).length)), .ref (ad 12), .ref (ad 13), .ref (ad 14), .ref (ad 15), .ref (ad 16), .ref (ad 17), .ref (ad 18), .ref (ad 19), .ref (ad 20), .ref (ad 21), .int (nI ((kIs σ).length)), .int (nI (kMk σ) - 1)])) := ⟨_, rfl⟩
                  replace hP : gP D classes b A49 H := by rw [eA49]; exact hP
                  have hM50 : rMM cI cZ cL A49 h ad F G 0 ((kRs σ).length) ((kIs σ).length) ((kMk σ)) := by rw [eA49]; exact hM.obj
                  have glA49 : gL A A49 := by rw [eA49]; exact gL.rf.U (by decide)
                  refine lv_iload hx hb d_MM_verify_164 (lv_at hl 1 rfl) ?_
                  refine lv_if_eq (tgt := 174) hx hb d_MM_verify_166 (by decide) (fun _ => ?_) (fun h9 => absurd (by decide) h9)
                  refine lv_bipush (v := (-10)) hx hb d_MM_verify_174 (by decide) ?_
                  refine lv_iload hx hb d_MM_verify_176 (lv_at hl 2 rfl) ?_
                  refine lv_isub hx hb d_MM_verify_178 ?_
                  have hcn : cn = (cnt (qAsk σ mk mt) (kIs σ).length) := by rw [hinv, show i = (kIs σ).length by omega]
                  have hwt : wantd (nI (cnt (qAsk σ mk mt) (kIs σ).length)) md n = false := by rw [← hcn]; simp_all [wantd, ← Int32.not_lt]
                  have e9 : sVerify σ (nI mk) (nI mt) md n = ((kRs σ, kIs σ, kSt σ, [], kMk σ), -10 - nI (cnt (qAsk σ mk mt) (kIs σ).length)) := by unfold sVerify; rw [if_pos (by simp_all [inR]), hc1, hc2, if_pos (by simp_all), if_neg (by rw [hwt]; decide)]
                  refine W.widen (k := 0) (n := 0) (by decide) (by decide) ?_
                  exact W.iret hx hb hr (fun t ht _ => ⟨⟨_, A49, rfl, ⟨by rw [e9]; rw [hcn], by rw [e9]; exact ⟨ad, F, G, hM50, hR.bu0⟩, glA49⟩, show gP D classes b A49 t.heap by rw [ht]; exact hP⟩, hS.F ht⟩) hS.2.2 d_MM_verify_179
                · skip
                  replace c48 : ¬ (kIs σ).length ≤ 0 := fun q => c48 ((nI_leI (a := (kIs σ).length) (b := 0) (by omega) (by decide)).mpr q)
                  refine lv_iload hx hb d_MM_verify_129 (lv_at hl 1 rfl) ?_
                  refine lv_if_eq (tgt := 159) hx hb d_MM_verify_131 (by decide) (fun _ => ?_) (fun h9 => absurd (by decide) h9)
                  refine lv_aload_n hx hb d_MM_verify_159 rfl (lv_at hl 3 rfl) ?_
                  refine lv_iconst (v := 0) hx hb d_MM_verify_160 (by decide) ?_
                  refine g_put (ty := .int) (v := .int 0) hx hb hts i_MM t_MM t_MM_ok n_MM hown hK.1 hP hS (show A (20, 0) = some (h, .inr (5, [.ref (ad 0), .ref (ad 1), .int (nI ((kBu σ).length)), .ref (ad 3), .ref (ad 4), .ref (ad 5), .ref (ad 6), .ref (ad 7), .ref (ad 8), .ref (ad 9), .ref (ad 10), .int (nI ((kRs σ).length)), .ref (ad 12), .ref (ad 13), .ref (ad 14), .ref (ad 15), .ref (ad 16), .ref (ad 17), .ref (ad 18), .ref (ad 19), .ref (ad 20), .ref (ad 21), .int (nI ((kIs σ).length)), .int (nI (kMk σ) - 1)])) from hM.1) rfl 2 (by decide) (hts _ k_445) (fun _ h9 => h9) rfl (by decide +kernel) rfl rfl (Nat.le_of_ble_eq_true rfl) d_MM_verify_161 (fun H locs hP hS => ?_)
                  obtain ⟨A53, eA53⟩ : ∃ z, z = gU A (20, 0) (h, .inr (5, [.ref (ad 0), .ref (ad 1), .int 0, .ref (ad 3), .ref (ad 4), .ref (ad 5), .ref (ad 6), .ref (ad 7), .ref (ad 8), .ref (ad 9), .ref (ad 10), .int (nI ((kRs σ).length)), .ref (ad 12), .ref (ad 13), .ref (ad 14), .ref (ad 15), .ref (ad 16), .ref (ad 17), .ref (ad 18), .ref (ad 19), .ref (ad 20), .ref (ad 21), .int (nI ((kIs σ).length)), .int (nI (kMk σ) - 1)])) := ⟨_, rfl⟩
                  replace hP : gP D classes b A53 H := by rw [eA53]; exact hP
                  have hM54 : rMM cI cZ cL A53 h ad F G 0 ((kRs σ).length) ((kIs σ).length) ((kMk σ)) := by rw [eA53]; exact hM.obj
                  have glA53 : gL A A53 := by rw [eA53]; exact gL.rf.U (by decide)
                  refine lv_iload hx hb d_MM_verify_164 (lv_at hl 1 rfl) ?_
                  refine lv_if_eq (tgt := 174) hx hb d_MM_verify_166 (by decide) (fun _ => ?_) (fun h9 => absurd (by decide) h9)
                  refine lv_bipush (v := (-10)) hx hb d_MM_verify_174 (by decide) ?_
                  refine lv_iload hx hb d_MM_verify_176 (lv_at hl 2 rfl) ?_
                  refine lv_isub hx hb d_MM_verify_178 ?_
                  have hcn : cn = (cnt (qAsk σ mk mt) (kIs σ).length) := by rw [hinv, show i = (kIs σ).length by omega]
                  have hwt : wantd (nI (cnt (qAsk σ mk mt) (kIs σ).length)) md n = false := by rw [← hcn]; simp_all [wantd, ← Int32.not_lt]
                  have e9 : sVerify σ (nI mk) (nI mt) md n = ((kRs σ, kIs σ, kSt σ, [], kMk σ), -10 - nI (cnt (qAsk σ mk mt) (kIs σ).length)) := by unfold sVerify; rw [if_pos (by simp_all [inR]), hc1, hc2, if_pos (by simp_all), if_neg (by rw [hwt]; decide)]
                  refine W.widen (k := 0) (n := 0) (by decide) (by decide) ?_
                  exact W.iret hx hb hr (fun t ht _ => ⟨⟨_, A53, rfl, ⟨by rw [e9]; rw [hcn], by rw [e9]; exact ⟨ad, F, G, hM54, hR.bu0⟩, glA53⟩, show gP D classes b A53 t.heap by rw [ht]; exact hP⟩, hS.F ht⟩) hS.2.2 d_MM_verify_179
              · skip
                refine lv_iconst (v := 1) hx hb d_MM_verify_75 (by decide) ?_
                refine lv_goto (tgt := 115) hx hb d_MM_verify_76 (by decide) ?_
                refine lv_istore (lv' := [(6, .int 1), (5, .int (nI cn)), (0, .ref h), (1, .int (nI mk)), (2, .int (nI mt)), (3, .int md), (4, .int n)]) hx hb d_MM_verify_115 hl (by decide) rfl (fun ls hl => ?_)
                refine lv_iconst (v := 0) hx hb d_MM_verify_117 (by decide) ?_
                refine lv_istore (lv' := [(7, .int 0), (6, .int 1), (5, .int (nI cn)), (0, .ref h), (1, .int (nI mk)), (2, .int (nI mt)), (3, .int md), (4, .int n)]) hx hb d_MM_verify_118 hl (by decide) rfl (fun ls hl => ?_)
                obtain ⟨gn, hgn0⟩ : ∃ z : Nat, z = (kIs σ).length := ⟨_, rfl⟩
                rw [← hgn0] at hR
                obtain ⟨i2, hi20⟩ : ∃ z : Nat, z = 0 := ⟨_, rfl⟩
                obtain ⟨B2, hB02⟩ : ∃ z : gW, z = A := ⟨_, rfl⟩
                obtain ⟨H2, hH02⟩ : ∃ z : Heap, z = s.heap := ⟨_, rfl⟩
                obtain ⟨lo2, hlo02⟩ : ∃ z : List Loc, z = [] := ⟨_, rfl⟩
                obtain ⟨Fx2, hFx02⟩ : ∃ z : Nat → Nat → Int32, z = F := ⟨_, rfl⟩
                obtain ⟨n2, hn2⟩ : ∃ z : Nat, i2 + z = (kIs σ).length := ⟨(kIs σ).length - i2, by omega⟩
                replace hl : lv_has ls 8 [(7, .int (nI i2)), (6, .int 1), (5, .int (nI cn)), (0, .ref h), (1, .int (nI mk)), (2, .int (nI mt)), (3, .int md), (4, .int n)] := by rw [hi20, nI_0]; exact hl
                replace hP : gP D classes b B2 H2 := by rw [hB02, hH02]; exact hP
                replace hS : gS b s.heap H2 lo2 := by rw [hH02, hlo02]; exact hS
                have hMi2 : rMM cI cZ cL B2 h ad Fx2 G ((kBu σ).length) ((kRs σ).length) ((kIs σ).length) (kMk σ) := by rw [hB02, hFx02]; exact hM
                have hRi2 : mRep Fx2 G (kRs σ, upT (gVer (kBu σ) mk mt) i2 (kIs σ), kSt σ, kBu σ, kMk σ) gn := by rw [hFx02, hi20]; exact hR
                have gli2 : gL A B2 := by rw [hB02]; exact gL.rf
                rw [← hH02, ← hlo02]
                clear hi20 hB02 hH02 hlo02 hFx02
                induction n2 generalizing i2 B2 H2 lo2 Fx2 ls with
                | zero =>
                  refine lv_iload hx hb d_MM_verify_120 (lv_at hl 0 rfl) ?_
                  refine lv_aload_n hx hb d_MM_verify_122 rfl (lv_at hl 3 rfl) ?_
                  refine g_get hx hb hts i_MM hown hK.1 hP (show B2 (20, 0) = some (h, .inr (5, [.ref (ad 0), .ref (ad 1), .int (nI ((kBu σ).length)), .ref (ad 3), .ref (ad 4), .ref (ad 5), .ref (ad 6), .ref (ad 7), .ref (ad 8), .ref (ad 9), .ref (ad 10), .int (nI ((kRs σ).length)), .ref (ad 12), .ref (ad 13), .ref (ad 14), .ref (ad 15), .ref (ad 16), .ref (ad 17), .ref (ad 18), .ref (ad 19), .ref (ad 20), .ref (ad 21), .int (nI ((kIs σ).length)), .int (nI (kMk σ) - 1)])) from hMi2.1) rfl 22 (by decide) (hts _ k_465) (fun _ h9 => h9) rfl d_MM_verify_123 ?_
                  refine lv_icmp_ge (tgt := 159) hx hb d_MM_verify_126 (by decide) (fun _ => ?_) (fun h9 => absurd (nI_le (show (kIs σ).length ≤ i2 by omega) (by omega)) h9)
                  refine lv_aload_n hx hb d_MM_verify_159 rfl (lv_at hl 3 rfl) ?_
                  refine lv_iconst (v := 0) hx hb d_MM_verify_160 (by decide) ?_
                  refine g_put (ty := .int) (v := .int 0) hx hb hts i_MM t_MM t_MM_ok n_MM hown hK.1 hP hS (show B2 (20, 0) = some (h, .inr (5, [.ref (ad 0), .ref (ad 1), .int (nI ((kBu σ).length)), .ref (ad 3), .ref (ad 4), .ref (ad 5), .ref (ad 6), .ref (ad 7), .ref (ad 8), .ref (ad 9), .ref (ad 10), .int (nI ((kRs σ).length)), .ref (ad 12), .ref (ad 13), .ref (ad 14), .ref (ad 15), .ref (ad 16), .ref (ad 17), .ref (ad 18), .ref (ad 19), .ref (ad 20), .ref (ad 21), .int (nI ((kIs σ).length)), .int (nI (kMk σ) - 1)])) from hMi2.1) rfl 2 (by decide) (hts _ k_445) (fun _ h9 => h9) rfl (by decide +kernel) rfl rfl (Nat.le_of_ble_eq_true rfl) d_MM_verify_161 (fun H locs hP hS => ?_)
                  obtain ⟨A57, eA57⟩ : ∃ z, z = gU B2 (20, 0) (h, .inr (5, [.ref (ad 0), .ref (ad 1), .int 0, .ref (ad 3), .ref (ad 4), .ref (ad 5), .ref (ad 6), .ref (ad 7), .ref (ad 8), .ref (ad 9), .ref (ad 10), .int (nI ((kRs σ).length)), .ref (ad 12), .ref (ad 13), .ref (ad 14), .ref (ad 15), .ref (ad 16), .ref (ad 17), .ref (ad 18), .ref (ad 19), .ref (ad 20), .ref (ad 21), .int (nI ((kIs σ).length)), .int (nI (kMk σ) - 1)])) := ⟨_, rfl⟩
                  replace hP : gP D classes b A57 H := by rw [eA57]; exact hP
                  have hM58 : rMM cI cZ cL A57 h ad Fx2 G 0 ((kRs σ).length) ((kIs σ).length) ((kMk σ)) := by rw [eA57]; exact hMi2.obj
                  have glA57 : gL A A57 := by rw [eA57]; exact gli2.U (by decide)
                  refine lv_iload hx hb d_MM_verify_164 (lv_at hl 1 rfl) ?_
                  refine lv_if_eq (tgt := 174) hx hb d_MM_verify_166 (by decide) (fun h9 => absurd h9 (by decide)) (fun _ => ?_)
                  refine lv_iload hx hb d_MM_verify_169 (lv_at hl 2 rfl) ?_
                  refine lv_goto (tgt := 179) hx hb d_MM_verify_171 (by decide) ?_
                  have hcn : cn = (cnt (qAsk σ mk mt) (kIs σ).length) := by rw [hinv, show i = (kIs σ).length by omega]
                  have hwt : wantd (nI (cnt (qAsk σ mk mt) (kIs σ).length)) md n = true := by rw [← hcn]; simp_all [wantd, ← Int32.not_lt]
                  rw [upT_all _ _ (show (kIs σ).length ≤ i2 by omega)] at hRi2
                  have e9 : sVerify σ (nI mk) (nI mt) md n = ((kRs σ, (kIs σ).map (gVer (kBu σ) mk mt), kSt σ, [], kMk σ), nI (cnt (qAsk σ mk mt) (kIs σ).length)) := by unfold sVerify; rw [if_pos (by simp_all [inR]), hc1, hc2, if_pos (by simp_all), if_pos hwt]
                  refine W.widen (k := 0) (n := 0) (by decide) (by decide) ?_
                  exact W.iret hx hb hr (fun t ht _ => ⟨⟨_, A57, rfl, ⟨by rw [e9]; rw [hcn], by rw [e9]; exact ⟨ad, Fx2, G, (by rw [show ((kIs σ).map (gVer (kBu σ) mk mt)).length = (kIs σ).length from List.length_map _]; exact hM58), hRi2.bu0.cg (hgn0.trans (List.length_map _).symm)⟩, glA57⟩, show gP D classes b A57 t.heap by rw [ht]; exact hP⟩, hS.F ht⟩) hS.2.2 d_MM_verify_179
                | succ n2 ih2 =>
                  have hti : mIn Fx2 i2 ((kIs σ).getD i2 i0) := by rw [← upT_get (gVer (kBu σ) mk mt) (kIs σ) i0 (Nat.le_refl i2)]; exact hRi2.2.2.2.2.1 i2 (by show i2 < (upT (gVer (kBu σ) mk mt) i2 (kIs σ)).length; rw [upT_len]; omega)
                  obtain ⟨⟨bt1, bt2⟩, bt3⟩ := w4 i2 (by omega)
                  refine lv_iload hx hb d_MM_verify_120 (lv_at hl 0 rfl) ?_
                  refine lv_aload_n hx hb d_MM_verify_122 rfl (lv_at hl 3 rfl) ?_
                  refine g_get hx hb hts i_MM hown hK.1 hP (show B2 (20, 0) = some (h, .inr (5, [.ref (ad 0), .ref (ad 1), .int (nI ((kBu σ).length)), .ref (ad 3), .ref (ad 4), .ref (ad 5), .ref (ad 6), .ref (ad 7), .ref (ad 8), .ref (ad 9), .ref (ad 10), .int (nI ((kRs σ).length)), .ref (ad 12), .ref (ad 13), .ref (ad 14), .ref (ad 15), .ref (ad 16), .ref (ad 17), .ref (ad 18), .ref (ad 19), .ref (ad 20), .ref (ad 21), .int (nI ((kIs σ).length)), .int (nI (kMk σ) - 1)])) from hMi2.1) rfl 22 (by decide) (hts _ k_465) (fun _ h9 => h9) rfl d_MM_verify_123 ?_
                  refine lv_icmp_ge (tgt := 159) hx hb d_MM_verify_126 (by decide) (fun h9 => absurd h9 (nI_ge (show i2 < (kIs σ).length by omega) (by omega))) (fun _ => ?_)
                  refine lv_iload hx hb d_MM_verify_129 (lv_at hl 1 rfl) ?_
                  refine lv_if_eq (tgt := 159) hx hb d_MM_verify_131 (by decide) (fun h9 => absurd h9 (by decide)) (fun _ => ?_)
                  refine lv_aload_n hx hb d_MM_verify_134 rfl (lv_at hl 3 rfl) ?_
                  refine lv_iload hx hb d_MM_verify_135 (lv_at hl 0 rfl) ?_
                  refine lv_iload_n hx hb d_MM_verify_137 rfl (lv_at hl 4 rfl) ?_
                  refine lv_iload_n hx hb d_MM_verify_138 rfl (lv_at hl 5 rfl) ?_
                  refine g_ri (g_runV (As := [.int (nI i2), .int (nI mk), .int (nI mt)]) (rest := []) ⟨hx, hb, hml, hown, hts⟩ (c_MM_asked l hMi2 (bu := kBu σ) (show i2 < 160 by omega) hti bt1 bt2 (by omega) (by omega) w5 hRi2.1 w6) st_MM_asked k_575 ⟨rfl, rfl, by decide, by decide⟩ rfl (gI.preV hK hS hP (show B2 (20, 0) = some (h, .inr (5, [.ref (ad 0), .ref (ad 1), .int (nI ((kBu σ).length)), .ref (ad 3), .ref (ad 4), .ref (ad 5), .ref (ad 6), .ref (ad 7), .ref (ad 8), .ref (ad 9), .ref (ad 10), .int (nI ((kRs σ).length)), .ref (ad 12), .ref (ad 13), .ref (ad 14), .ref (ad 15), .ref (ad 16), .ref (ad 17), .ref (ad 18), .ref (ad 19), .ref (ad 20), .ref (ad 21), .int (nI ((kIs σ).length)), .int (nI (kMk σ) - 1)])) from hMi2.1) rfl _) rfl hl.1 rfl (Nat.le_of_ble_eq_true rfl) d_MM_verify_139 ⟨by decide, by decide⟩) (fun r62 hr62 => ?_)
                  subst hr62
                  refine lv_if_eq (tgt := 153) hx hb d_MM_verify_142 (by decide) (fun c63 => ?_) (fun c63 => ?_)
                  · skip
                    rw [bI_0] at c63
                    refine lv_iinc (v := nI (i2 + 1)) (lv' := [(7, .int (nI (i2 + 1))), (6, .int 1), (5, .int (nI cn)), (0, .ref h), (1, .int (nI mk)), (2, .int (nI mt)), (3, .int md), (4, .int n)]) hx hb d_MM_verify_153 hl (k := 0) rfl (nI_1 _) (by decide) rfl (fun ls hl => ?_)
                    refine lv_goto (tgt := 120) hx hb d_MM_verify_156 (by decide) ?_
                    exact ih2 _ _ _ _ _ _ (by omega) (lv_sub hl [0, 1, 2, 3, 4, 5, 6, 7] rfl) hP hS hMi2 (by rw [upT_k _ _ i0 (by omega) (by simp_all [gVer])]; exact hRi2) gli2
                  · skip
                    rw [bI_0] at c63
                    refine lv_aload_n hx hb d_MM_verify_145 rfl (lv_at hl 3 rfl) ?_
                    refine g_get hx hb hts i_MM hown hK.1 hP (show B2 (20, 0) = some (h, .inr (5, [.ref (ad 0), .ref (ad 1), .int (nI ((kBu σ).length)), .ref (ad 3), .ref (ad 4), .ref (ad 5), .ref (ad 6), .ref (ad 7), .ref (ad 8), .ref (ad 9), .ref (ad 10), .int (nI ((kRs σ).length)), .ref (ad 12), .ref (ad 13), .ref (ad 14), .ref (ad 15), .ref (ad 16), .ref (ad 17), .ref (ad 18), .ref (ad 19), .ref (ad 20), .ref (ad 21), .int (nI ((kIs σ).length)), .int (nI (kMk σ) - 1)])) from hMi2.1) rfl 21 (by decide) (hts _ k_464) (fun _ h9 => h9) rfl d_MM_verify_146 ?_
                    refine lv_iload hx hb d_MM_verify_149 (lv_at hl 0 rfl) ?_
                    refine lv_iconst (v := 1) hx hb d_MM_verify_151 (by decide) ?_
                    refine g_zast (k := i2) hx hb hK.1 hP hS 1 (show B2 (42, 0) = some (ad 21, .inl (cZ, 160, .inl (Fx2 21))) from hMi2.2.1 21 rfl) rfl (vp_in_nI (show i2 < 160 by omega) (by omega)) (nI_clamp (show i2 < 2 ^ 31 by omega)) rfl d_MM_verify_152 (fun H locs hP hS => ?_)
                    obtain ⟨A64, eA64⟩ : ∃ z, z = gU B2 (42, 0) (ad 21, .inl (cZ, 160, .inl (upd (Fx2 21) (i2) (1)))) := ⟨_, rfl⟩
                    replace hP : gP D classes b A64 H := by rw [eA64]; exact hP
                    have hM65 : rMM cI cZ cL A64 h ad (va_up Fx2 21 (upd (Fx2 21) (i2) (1))) G ((kBu σ).length) ((kRs σ).length) ((kIs σ).length) (kMk σ) := by rw [eA64]; exact hMi2.put 21 rfl _
                    have glA64 : gL A A64 := by rw [eA64]; exact gli2.U (by decide)
                    refine lv_iinc (v := nI (i2 + 1)) (lv' := [(7, .int (nI (i2 + 1))), (6, .int 1), (5, .int (nI cn)), (0, .ref h), (1, .int (nI mk)), (2, .int (nI mt)), (3, .int md), (4, .int n)]) hx hb d_MM_verify_153 hl (k := 0) rfl (nI_1 _) (by decide) rfl (fun ls hl => ?_)
                    refine lv_goto (tgt := 120) hx hb d_MM_verify_156 (by decide) ?_
                    exact ih2 _ _ _ _ _ _ (by omega) (lv_sub hl [0, 1, 2, 3, 4, 5, 6, 7] rfl) hP hS hM65 (by rw [upT_s _ _ i0 (by omega), show gVer (kBu σ) mk mt ((kIs σ).getD i2 i0) = iVer ((upT (gVer (kBu σ) mk mt) i2 (kIs σ)).getD i2 i0) by rw [upT_get _ _ _ (Nat.le_refl i2)]; simp_all [gVer]]; exact hRi2.ver (i := i2) (by show i2 < (upT (gVer (kBu σ) mk mt) i2 (kIs σ)).length; rw [upT_len]; omega)) glA64
          | succ nq ih =>
            refine lv_iload hx hb d_MM_verify_35 (lv_at hl 0 rfl) ?_
            refine lv_aload_n hx hb d_MM_verify_37 rfl (lv_at hl 2 rfl) ?_
            refine g_get hx hb hts i_MM hown hK.1 hP (show A (20, 0) = some (h, .inr (5, [.ref (ad 0), .ref (ad 1), .int (nI ((kBu σ).length)), .ref (ad 3), .ref (ad 4), .ref (ad 5), .ref (ad 6), .ref (ad 7), .ref (ad 8), .ref (ad 9), .ref (ad 10), .int (nI ((kRs σ).length)), .ref (ad 12), .ref (ad 13), .ref (ad 14), .ref (ad 15), .ref (ad 16), .ref (ad 17), .ref (ad 18), .ref (ad 19), .ref (ad 20), .ref (ad 21), .int (nI ((kIs σ).length)), .int (nI (kMk σ) - 1)])) from hM.1) rfl 22 (by decide) (hts _ k_465) (fun _ h9 => h9) rfl d_MM_verify_38 ?_
            refine lv_icmp_ge (tgt := 64) hx hb d_MM_verify_41 (by decide) (fun h9 => absurd h9 (nI_ge (show i < (kIs σ).length by omega) (by omega))) (fun _ => ?_)
            refine lv_aload_n hx hb d_MM_verify_44 rfl (lv_at hl 2 rfl) ?_
            refine lv_iload hx hb d_MM_verify_45 (lv_at hl 0 rfl) ?_
            refine lv_iload_n hx hb d_MM_verify_47 rfl (lv_at hl 3 rfl) ?_
            refine lv_iload_n hx hb d_MM_verify_48 rfl (lv_at hl 4 rfl) ?_
            refine g_ri (g_runV (As := [.int (nI i), .int (nI mk), .int (nI mt)]) (rest := []) ⟨hx, hb, hml, hown, hts⟩ (c_MM_asked l hM (bu := kBu σ) (show i < 160 by omega) (hit i (by omega)) (w4 i (by omega)).1.1 (w4 i (by omega)).1.2 (by omega) (by omega) w5 hb0 w6) st_MM_asked k_575 ⟨rfl, rfl, by decide, by decide⟩ rfl (gI.preV hK hS hP (show A (20, 0) = some (h, .inr (5, [.ref (ad 0), .ref (ad 1), .int (nI ((kBu σ).length)), .ref (ad 3), .ref (ad 4), .ref (ad 5), .ref (ad 6), .ref (ad 7), .ref (ad 8), .ref (ad 9), .ref (ad 10), .int (nI ((kRs σ).length)), .ref (ad 12), .ref (ad 13), .ref (ad 14), .ref (ad 15), .ref (ad 16), .ref (ad 17), .ref (ad 18), .ref (ad 19), .ref (ad 20), .ref (ad 21), .int (nI ((kIs σ).length)), .int (nI (kMk σ) - 1)])) from hM.1) rfl _) rfl hl.1 rfl (Nat.le_of_ble_eq_true rfl) d_MM_verify_49 ⟨by decide, by decide⟩) (fun r67 hr67 => ?_)
            subst hr67
            refine lv_if_eq (tgt := 58) hx hb d_MM_verify_52 (by decide) (fun c68 => ?_) (fun c68 => ?_)
            · skip
              rw [bI_0] at c68
              refine lv_iinc (v := nI (i + 1)) (lv' := [(6, .int (nI (i + 1))), (5, .int (nI cn)), (0, .ref h), (1, .int (nI mk)), (2, .int (nI mt)), (3, .int md), (4, .int n)]) hx hb d_MM_verify_58 hl (k := 0) rfl (nI_1 _) (by decide) rfl (fun ls hl => ?_)
              refine lv_goto (tgt := 35) hx hb d_MM_verify_61 (by decide) ?_
              exact ih _ _ _ (by omega) (lv_sub hl [0, 1, 2, 3, 4, 5, 6] rfl) (by simp_all [cnt, qAsk])
            · skip
              rw [bI_0] at c68
              refine lv_iinc (v := nI (cn + 1)) (lv' := [(5, .int (nI (cn + 1))), (6, .int (nI i)), (0, .ref h), (1, .int (nI mk)), (2, .int (nI mt)), (3, .int md), (4, .int n)]) hx hb d_MM_verify_55 hl (k := 1) rfl (nI_1 _) (by decide) rfl (fun ls hl => ?_)
              refine lv_iinc (v := nI (i + 1)) (lv' := [(6, .int (nI (i + 1))), (5, .int (nI (cn + 1))), (0, .ref h), (1, .int (nI mk)), (2, .int (nI mt)), (3, .int md), (4, .int n)]) hx hb d_MM_verify_58 hl (k := 1) rfl (nI_1 _) (by decide) rfl (fun ls hl => ?_)
              refine lv_goto (tgt := 35) hx hb d_MM_verify_61 (by decide) ?_
              exact ih _ _ _ (by omega) (lv_sub hl [0, 1, 2, 3, 4, 5, 6] rfl) (by simp_all [cnt, qAsk])
        · skip
          replace c5 : ¬ (kBu σ).length = mt % 4 := fun q => c5 ((nI_eq (a := (kBu σ).length) (b := mt % 4) (by omega) (by omega)).mpr q)
          refine lv_iconst (v := (-1)) hx hb d_MM_verify_27 (by decide) ?_
          have e9 : sVerify σ (nI mk) (nI mt) md n = (σ, -1) := by unfold sVerify; rw [if_pos (by simp_all [inR]), hc1, hc2, if_neg (by simp_all)]
          refine W.widen (k := 0) (n := 0) (by decide) (by decide) ?_
          exact W.iret hx hb hr (fun t ht _ => ⟨⟨_, A, rfl, ⟨by rw [e9], by rw [e9]; exact hB, gL.rf⟩, show gP D classes b A t.heap by rw [ht]; exact hP⟩, hS.F ht⟩) hS.2.2 d_MM_verify_28
set_option maxHeartbeats 4000000 in
set_option maxRecDepth 100000 in
theorem c_MM_reset (l : Launch) {D : va_G} {cI cZ cO cL : ClassId} {b e0 : Nat} {A : gW} {h : Nat} {σ : Bk} (hB : rMo cI cZ cL A h σ) (hw : wf σ) (x : Int32) : Met l y_MM_reset (Cond.code y_MM_reset b_MM_reset 4 (some .int) :: TT) ({ frames := 0, cells := 0, slots := 0, locals := 0 }) (va_Pc [.ref h, .int x] (gI D [(cI, .int), (cZ, .boolean), (cO, .object "java/lang/Object"), (cL, .long)] b e0 A)) (va_Qi (fun (z : Int32) (A2 : gW) => z = (sReset σ x).2 ∧ rMo cI cZ cL A2 h (sReset σ x).1 ∧ gL A A2) (fun A2 t => gP D classes b A2 t.heap) (fun q => b ≤ q)) 0 0 (fun q => b ≤ q) := by
  refine Met.ofG (own := R_MM) (by decide +kernel) rfl (Nat.le_of_ble_eq_true rfl) ?_
  intro p e s m below meth c ls hx hb hr hlk hml hown hnm hts hI hl
  have hl : lv_has ls 4 [(0, .ref h), (1, .int x)] := hl
  have hS : gS b s.heap s.heap [] := va_S.rf
  obtain ⟨hP, hK⟩ := hI
  obtain ⟨ad, F, G, hM, hR⟩ := id hB
  obtain ⟨hb0, hru, hrz, hst, hit, hiz, hgn⟩ := id hR
  obtain ⟨w1, w2, w3, w4, w5, w6, w7, w8⟩ := id hw
  refine lv_iload_n hx hb d_MM_reset_0 rfl (lv_at hl 1 rfl) ?_
  refine lv_if_lt (tgt := 9) hx hb d_MM_reset_1 (by decide) (fun c1 => ?_) (fun c1 => ?_)
  · skip
    refine lv_iconst (v := (-1)) hx hb d_MM_reset_9 (by decide) ?_
    have e9 : sReset σ x = (σ, -1) := by simp_all [sReset, inR, ← Int32.not_lt]
    refine W.widen (k := 0) (n := 0) (by decide) (by decide) ?_
    exact W.iret hx hb hr (fun t ht _ => ⟨⟨_, A, rfl, ⟨by rw [e9], by rw [e9]; exact hB, gL.rf⟩, show gP D classes b A t.heap by rw [ht]; exact hP⟩, hS.F ht⟩) hS.2.2 d_MM_reset_10
  · skip
    refine lv_iload_n hx hb d_MM_reset_4 rfl (lv_at hl 1 rfl) ?_
    refine lv_iconst (v := 3) hx hb d_MM_reset_5 (by decide) ?_
    refine lv_icmp_le (tgt := 11) hx hb d_MM_reset_6 (by decide) (fun c2 => ?_) (fun c2 => ?_)
    · skip
      have hin0 : inR x 0 3 = true := by simp_all [inR, ← Int32.not_lt]
      obtain ⟨mk, hmk, rfl⟩ := inR_of (M := 3) (n := 3) (by decide) hin0
      have hcl := nI_clamp (show mk < 2 ^ 31 by omega)
      refine lv_iconst (v := 0) hx hb d_MM_reset_11 (by decide) ?_
      refine lv_istore_n (lv' := [(2, .int 0), (0, .ref h), (1, .int (nI mk))]) hx hb d_MM_reset_12 rfl hl (by decide) rfl (fun ls hl => ?_)
      refine lv_iconst (v := 0) hx hb d_MM_reset_13 (by decide) ?_
      refine lv_istore_n (lv' := [(3, .int 0), (2, .int 0), (0, .ref h), (1, .int (nI mk))]) hx hb d_MM_reset_14 rfl hl (by decide) rfl (fun ls hl => ?_)
      obtain ⟨gn, hgn0⟩ : ∃ z : Nat, z = (kIs σ).length := ⟨_, rfl⟩
      rw [← hgn0] at hR
      obtain ⟨i1, hi10⟩ : ∃ z : Nat, z = 0 := ⟨_, rfl⟩
      obtain ⟨cn, hcn0⟩ : ∃ z : Nat, z = 0 := ⟨_, rfl⟩
      obtain ⟨B1, hB01⟩ : ∃ z : gW, z = A := ⟨_, rfl⟩
      obtain ⟨H1, hH01⟩ : ∃ z : Heap, z = s.heap := ⟨_, rfl⟩
      obtain ⟨lo1, hlo01⟩ : ∃ z : List Loc, z = [] := ⟨_, rfl⟩
      obtain ⟨Fx1, hFx01⟩ : ∃ z : Nat → Nat → Int32, z = F := ⟨_, rfl⟩
      obtain ⟨n1, hn1⟩ : ∃ z : Nat, i1 + z = (kIs σ).length := ⟨(kIs σ).length - i1, by omega⟩
      replace hl : lv_has ls 4 [(3, .int (nI i1)), (2, .int (nI cn)), (0, .ref h), (1, .int (nI mk))] := by rw [hi10, hcn0, nI_0]; exact hl
      replace hP : gP D classes b B1 H1 := by rw [hB01, hH01]; exact hP
      replace hS : gS b s.heap H1 lo1 := by rw [hH01, hlo01]; exact hS
      have hMi1 : rMM cI cZ cL B1 h ad Fx1 G ((kBu σ).length) ((kRs σ).length) ((kIs σ).length) (kMk σ) := by rw [hB01, hFx01]; exact hM
      have hRi1 : mRep Fx1 G (kRs σ, upT (gEndI mk) i1 (kIs σ), kSt σ, kBu σ, kMk σ) gn := by rw [hFx01, hi10]; exact hR
      have gli1 : gL A B1 := by rw [hB01]; exact gL.rf
      have hinv : cn = cnt (qEnd (kIs σ) mk) i1 := by rw [hi10, hcn0]; rfl
      rw [← hH01, ← hlo01]
      clear hi10 hB01 hH01 hlo01 hFx01 hcn0
      induction n1 generalizing i1 cn B1 H1 lo1 Fx1 ls with
      | zero =>
        refine lv_iload_n hx hb d_MM_reset_15 rfl (lv_at hl 0 rfl) ?_
        refine lv_aload_n hx hb d_MM_reset_16 rfl (lv_at hl 2 rfl) ?_
        refine g_get hx hb hts i_MM hown hK.1 hP (show B1 (20, 0) = some (h, .inr (5, [.ref (ad 0), .ref (ad 1), .int (nI ((kBu σ).length)), .ref (ad 3), .ref (ad 4), .ref (ad 5), .ref (ad 6), .ref (ad 7), .ref (ad 8), .ref (ad 9), .ref (ad 10), .int (nI ((kRs σ).length)), .ref (ad 12), .ref (ad 13), .ref (ad 14), .ref (ad 15), .ref (ad 16), .ref (ad 17), .ref (ad 18), .ref (ad 19), .ref (ad 20), .ref (ad 21), .int (nI ((kIs σ).length)), .int (nI (kMk σ) - 1)])) from hMi1.1) rfl 22 (by decide) (hts _ k_465) (fun _ h9 => h9) rfl d_MM_reset_17 ?_
        refine lv_icmp_ge (tgt := 61) hx hb d_MM_reset_20 (by decide) (fun _ => ?_) (fun h9 => absurd (nI_le (show (kIs σ).length ≤ i1 by omega) (by omega)) h9)
        refine lv_iconst (v := 0) hx hb d_MM_reset_61 (by decide) ?_
        refine lv_istore_n (lv' := [(3, .int 0), (2, .int (nI cn)), (0, .ref h), (1, .int (nI mk))]) hx hb d_MM_reset_62 rfl hl (by decide) rfl (fun ls hl => ?_)
        rw [upT_all _ _ (show (kIs σ).length ≤ i1 by omega)] at hRi1
        have hcn : cn = cnt (qEnd (kIs σ) mk) (kIs σ).length := by rw [hinv, show i1 = (kIs σ).length by omega]
        clear hinv
        obtain ⟨i2, hi20⟩ : ∃ z : Nat, z = 0 := ⟨_, rfl⟩
        obtain ⟨B2, hB02⟩ : ∃ z : gW, z = B1 := ⟨_, rfl⟩
        obtain ⟨H2, hH02⟩ : ∃ z : Heap, z = H1 := ⟨_, rfl⟩
        obtain ⟨lo2, hlo02⟩ : ∃ z : List Loc, z = lo1 := ⟨_, rfl⟩
        obtain ⟨Fx2, hFx02⟩ : ∃ z : Nat → Nat → Int32, z = Fx1 := ⟨_, rfl⟩
        obtain ⟨n2, hn2⟩ : ∃ z : Nat, i2 + z = (kRs σ).length := ⟨(kRs σ).length - i2, by omega⟩
        replace hl : lv_has ls 4 [(3, .int (nI i2)), (2, .int (nI cn)), (0, .ref h), (1, .int (nI mk))] := by rw [hi20, nI_0]; exact hl
        replace hP : gP D classes b B2 H2 := by rw [hB02, hH02]; exact hP
        replace hS : gS b s.heap H2 lo2 := by rw [hH02, hlo02]; exact hS
        have hMi2 : rMM cI cZ cL B2 h ad Fx2 G ((kBu σ).length) ((kRs σ).length) ((kIs σ).length) (kMk σ) := by rw [hB02, hFx02]; exact hMi1
        have hRi2 : mRep Fx2 G (upT (gEndR mk) i2 (kRs σ), (kIs σ).map (gEndI mk), kSt σ, kBu σ, kMk σ) gn := by rw [hFx02, hi20]; exact hRi1
        have gli2 : gL A B2 := by rw [hB02]; exact gli1
        rw [← hH02, ← hlo02]
        clear hi20 hB02 hH02 hlo02 hFx02
        induction n2 generalizing i2 B2 H2 lo2 Fx2 ls with
        | zero =>
          refine lv_iload_n hx hb d_MM_reset_63 rfl (lv_at hl 0 rfl) ?_
          refine lv_aload_n hx hb d_MM_reset_64 rfl (lv_at hl 2 rfl) ?_
          refine g_get hx hb hts i_MM hown hK.1 hP (show B2 (20, 0) = some (h, .inr (5, [.ref (ad 0), .ref (ad 1), .int (nI ((kBu σ).length)), .ref (ad 3), .ref (ad 4), .ref (ad 5), .ref (ad 6), .ref (ad 7), .ref (ad 8), .ref (ad 9), .ref (ad 10), .int (nI ((kRs σ).length)), .ref (ad 12), .ref (ad 13), .ref (ad 14), .ref (ad 15), .ref (ad 16), .ref (ad 17), .ref (ad 18), .ref (ad 19), .ref (ad 20), .ref (ad 21), .int (nI ((kIs σ).length)), .int (nI (kMk σ) - 1)])) from hMi2.1) rfl 11 (by decide) (hts _ k_454) (fun _ h9 => h9) rfl d_MM_reset_65 ?_
          refine lv_icmp_ge (tgt := 94) hx hb d_MM_reset_68 (by decide) (fun _ => ?_) (fun h9 => absurd (nI_le (show (kRs σ).length ≤ i2 by omega) (by omega)) h9)
          refine lv_iload_n hx hb d_MM_reset_94 rfl (lv_at hl 1 rfl) ?_
          rw [upT_all _ _ (show (kRs σ).length ≤ i2 by omega)] at hRi2
          have e9 : sReset σ (nI mk) = (((kRs σ).map (gEndR mk), (kIs σ).map (gEndI mk), kSt σ, kBu σ, kMk σ), nI (cnt (qEnd (kIs σ) mk) (kIs σ).length)) := by unfold sReset; rw [if_pos hin0, hcl]
          refine W.widen (k := 0) (n := 0) (by decide) (by decide) ?_
          exact W.iret hx hb hr (fun t ht _ => ⟨⟨_, B2, rfl, ⟨by rw [e9]; rw [hcn], by rw [e9]; exact ⟨ad, Fx2, G, (by rw [show ((kIs σ).map (gEndI mk)).length = (kIs σ).length from List.length_map _, show ((kRs σ).map (gEndR mk)).length = (kRs σ).length from List.length_map _]; exact hMi2), hRi2.cg (hgn0.trans (List.length_map _).symm)⟩, gli2⟩, show gP D classes b B2 t.heap by rw [ht]; exact hP⟩, hS.F ht⟩) hS.2.2 d_MM_reset_95
        | succ n2 ih2 =>
          have hti : mRu Fx2 i2 ((kRs σ).getD i2 u0) := by rw [← upT_get (gEndR mk) (kRs σ) u0 (Nat.le_refl i2)]; exact hRi2.2.1 i2 (by show i2 < (upT (gEndR mk) i2 (kRs σ)).length; rw [upT_len]; omega)
          obtain ⟨bt1, bt2, -⟩ := w3 i2 (by omega)
          refine lv_iload_n hx hb d_MM_reset_63 rfl (lv_at hl 0 rfl) ?_
          refine lv_aload_n hx hb d_MM_reset_64 rfl (lv_at hl 2 rfl) ?_
          refine g_get hx hb hts i_MM hown hK.1 hP (show B2 (20, 0) = some (h, .inr (5, [.ref (ad 0), .ref (ad 1), .int (nI ((kBu σ).length)), .ref (ad 3), .ref (ad 4), .ref (ad 5), .ref (ad 6), .ref (ad 7), .ref (ad 8), .ref (ad 9), .ref (ad 10), .int (nI ((kRs σ).length)), .ref (ad 12), .ref (ad 13), .ref (ad 14), .ref (ad 15), .ref (ad 16), .ref (ad 17), .ref (ad 18), .ref (ad 19), .ref (ad 20), .ref (ad 21), .int (nI ((kIs σ).length)), .int (nI (kMk σ) - 1)])) from hMi2.1) rfl 11 (by decide) (hts _ k_454) (fun _ h9 => h9) rfl d_MM_reset_65 ?_
          refine lv_icmp_ge (tgt := 94) hx hb d_MM_reset_68 (by decide) (fun h9 => absurd h9 (nI_ge (show i2 < (kRs σ).length by omega) (by omega))) (fun _ => ?_)
          refine lv_aload_n hx hb d_MM_reset_71 rfl (lv_at hl 2 rfl) ?_
          refine g_get hx hb hts i_MM hown hK.1 hP (show B2 (20, 0) = some (h, .inr (5, [.ref (ad 0), .ref (ad 1), .int (nI ((kBu σ).length)), .ref (ad 3), .ref (ad 4), .ref (ad 5), .ref (ad 6), .ref (ad 7), .ref (ad 8), .ref (ad 9), .ref (ad 10), .int (nI ((kRs σ).length)), .ref (ad 12), .ref (ad 13), .ref (ad 14), .ref (ad 15), .ref (ad 16), .ref (ad 17), .ref (ad 18), .ref (ad 19), .ref (ad 20), .ref (ad 21), .int (nI ((kIs σ).length)), .int (nI (kMk σ) - 1)])) from hMi2.1) rfl 3 (by decide) (hts _ k_446) (fun _ h9 => h9) rfl d_MM_reset_72 ?_
          refine lv_iload_n hx hb d_MM_reset_75 rfl (lv_at hl 0 rfl) ?_
          refine g_iald (v := nI (uMk ((kRs σ).getD i2 u0))) hx hb hK.1 hP 0 (show B2 (24, 0) = some (ad 3, .inl (cI, 24, .inl (Fx2 3))) from hMi2.2.1 3 rfl) rfl (vp_in_nI (show i2 < 24 by omega) (by omega)) (by rw [(nI_clamp (show i2 < 2 ^ 31 by omega))]; exact hti.1) d_MM_reset_76 ?_
          refine lv_iload_n hx hb d_MM_reset_77 rfl (lv_at hl 3 rfl) ?_
          refine lv_icmp_ne (tgt := 88) hx hb d_MM_reset_78 (by decide) (fun c6 => ?_) (fun c6 => ?_)
          · skip
            replace c6 : ¬ uMk ((kRs σ).getD i2 u0) = mk := fun q => c6 ((nI_eq (a := uMk ((kRs σ).getD i2 u0)) (b := mk) (by omega) (by omega)).mpr q)
            refine lv_iinc (v := nI (i2 + 1)) (lv' := [(3, .int (nI (i2 + 1))), (2, .int (nI cn)), (0, .ref h), (1, .int (nI mk))]) hx hb d_MM_reset_88 hl (k := 0) rfl (nI_1 _) (by decide) rfl (fun ls hl => ?_)
            refine lv_goto (tgt := 63) hx hb d_MM_reset_91 (by decide) ?_
            exact ih2 _ _ _ _ _ _ (by omega) (lv_sub hl [0, 1, 2, 3] rfl) hP hS hMi2 (by rw [upT_k _ _ u0 (by omega) (by simp_all [gEndR])]; exact hRi2) gli2
          · skip
            replace c6 : uMk ((kRs σ).getD i2 u0) = mk := (nI_eq (a := uMk ((kRs σ).getD i2 u0)) (b := mk) (by omega) (by omega)).mp c6
            refine lv_aload_n hx hb d_MM_reset_81 rfl (lv_at hl 2 rfl) ?_
            refine g_get hx hb hts i_MM hown hK.1 hP (show B2 (20, 0) = some (h, .inr (5, [.ref (ad 0), .ref (ad 1), .int (nI ((kBu σ).length)), .ref (ad 3), .ref (ad 4), .ref (ad 5), .ref (ad 6), .ref (ad 7), .ref (ad 8), .ref (ad 9), .ref (ad 10), .int (nI ((kRs σ).length)), .ref (ad 12), .ref (ad 13), .ref (ad 14), .ref (ad 15), .ref (ad 16), .ref (ad 17), .ref (ad 18), .ref (ad 19), .ref (ad 20), .ref (ad 21), .int (nI ((kIs σ).length)), .int (nI (kMk σ) - 1)])) from hMi2.1) rfl 5 (by decide) (hts _ k_448) (fun _ h9 => h9) rfl d_MM_reset_82 ?_
            refine lv_iload_n hx hb d_MM_reset_85 rfl (lv_at hl 0 rfl) ?_
            refine lv_iconst (v := 0) hx hb d_MM_reset_86 (by decide) ?_
            refine g_zast (k := i2) hx hb hK.1 hP hS 1 (show B2 (26, 0) = some (ad 5, .inl (cZ, 24, .inl (Fx2 5))) from hMi2.2.1 5 rfl) rfl (vp_in_nI (show i2 < 24 by omega) (by omega)) (nI_clamp (show i2 < 2 ^ 31 by omega)) rfl d_MM_reset_87 (fun H locs hP hS => ?_)
            obtain ⟨A7, eA7⟩ : ∃ z, z = gU B2 (26, 0) (ad 5, .inl (cZ, 24, .inl (upd (Fx2 5) (i2) (0)))) := ⟨_, rfl⟩
            replace hP : gP D classes b A7 H := by rw [eA7]; exact hP
            have hM8 : rMM cI cZ cL A7 h ad (va_up Fx2 5 (upd (Fx2 5) (i2) (0))) G ((kBu σ).length) ((kRs σ).length) ((kIs σ).length) (kMk σ) := by rw [eA7]; exact hMi2.put 5 rfl _
            have glA7 : gL A A7 := by rw [eA7]; exact gli2.U (by decide)
            refine lv_iinc (v := nI (i2 + 1)) (lv' := [(3, .int (nI (i2 + 1))), (2, .int (nI cn)), (0, .ref h), (1, .int (nI mk))]) hx hb d_MM_reset_88 hl (k := 0) rfl (nI_1 _) (by decide) rfl (fun ls hl => ?_)
            refine lv_goto (tgt := 63) hx hb d_MM_reset_91 (by decide) ?_
            exact ih2 _ _ _ _ _ _ (by omega) (lv_sub hl [0, 1, 2, 3] rfl) hP hS hM8 (by rw [upT_s _ _ u0 (by omega), show gEndR mk ((kRs σ).getD i2 u0) = uEnd ((upT (gEndR mk) i2 (kRs σ)).getD i2 u0) by rw [upT_get _ _ _ (Nat.le_refl i2)]; simp_all [gEndR]]; exact hRi2.endR (i := i2) (by show i2 < (upT (gEndR mk) i2 (kRs σ)).length; rw [upT_len]; omega) (by show (upT (gEndR mk) i2 (kRs σ)).length ≤ 24; rw [upT_len]; omega) (fun j hj => by
              replace hj : j < (kRs σ).length := by have h9 : j < (upT (gEndR mk) i2 (kRs σ)).length := hj; rw [upT_len] at h9; exact h9
              show (uAc ((upT (gEndR mk) i2 (kRs σ)).getD j u0)).length ≤ 4
              by_cases hji : j < i2
              · rw [upT_lt _ _ _ hji hj]; have h9 := hw.l4 j hj; unfold gEndR; split <;> exact h9
              · rw [upT_get _ _ _ (by omega)]; exact hw.l4 j hj)) glA7
      | succ n1 ih1 =>
        have hti : mIn Fx1 i1 ((kIs σ).getD i1 i0) := by rw [← upT_get (gEndI mk) (kIs σ) i0 (Nat.le_refl i1)]; exact hRi1.2.2.2.2.1 i1 (by show i1 < (upT (gEndI mk) i1 (kIs σ)).length; rw [upT_len]; omega)
        obtain ⟨⟨bt1, bt2⟩, bt3⟩ := w4 i1 (by omega)
        refine lv_iload_n hx hb d_MM_reset_15 rfl (lv_at hl 0 rfl) ?_
        refine lv_aload_n hx hb d_MM_reset_16 rfl (lv_at hl 2 rfl) ?_
        refine g_get hx hb hts i_MM hown hK.1 hP (show B1 (20, 0) = some (h, .inr (5, [.ref (ad 0), .ref (ad 1), .int (nI ((kBu σ).length)), .ref (ad 3), .ref (ad 4), .ref (ad 5), .ref (ad 6), .ref (ad 7), .ref (ad 8), .ref (ad 9), .ref (ad 10), .int (nI ((kRs σ).length)), .ref (ad 12), .ref (ad 13), .ref (ad 14), .ref (ad 15), .ref (ad 16), .ref (ad 17), .ref (ad 18), .ref (ad 19), .ref (ad 20), .ref (ad 21), .int (nI ((kIs σ).length)), .int (nI (kMk σ) - 1)])) from hMi1.1) rfl 22 (by decide) (hts _ k_465) (fun _ h9 => h9) rfl d_MM_reset_17 ?_
        refine lv_icmp_ge (tgt := 61) hx hb d_MM_reset_20 (by decide) (fun h9 => absurd h9 (nI_ge (show i1 < (kIs σ).length by omega) (by omega))) (fun _ => ?_)
        refine lv_aload_n hx hb d_MM_reset_23 rfl (lv_at hl 2 rfl) ?_
        refine g_get hx hb hts i_MM hown hK.1 hP (show B1 (20, 0) = some (h, .inr (5, [.ref (ad 0), .ref (ad 1), .int (nI ((kBu σ).length)), .ref (ad 3), .ref (ad 4), .ref (ad 5), .ref (ad 6), .ref (ad 7), .ref (ad 8), .ref (ad 9), .ref (ad 10), .int (nI ((kRs σ).length)), .ref (ad 12), .ref (ad 13), .ref (ad 14), .ref (ad 15), .ref (ad 16), .ref (ad 17), .ref (ad 18), .ref (ad 19), .ref (ad 20), .ref (ad 21), .int (nI ((kIs σ).length)), .int (nI (kMk σ) - 1)])) from hMi1.1) rfl 13 (by decide) (hts _ k_456) (fun _ h9 => h9) rfl d_MM_reset_24 ?_
        refine lv_iload_n hx hb d_MM_reset_27 rfl (lv_at hl 0 rfl) ?_
        refine g_iald (v := nI (iMk ((kIs σ).getD i1 i0))) hx hb hK.1 hP 0 (show B1 (34, 0) = some (ad 13, .inl (cI, 160, .inl (Fx1 13))) from hMi1.2.1 13 rfl) rfl (vp_in_nI (show i1 < 160 by omega) (by omega)) (by rw [(nI_clamp (show i1 < 2 ^ 31 by omega))]; exact hti.1) d_MM_reset_28 ?_
        refine lv_iload_n hx hb d_MM_reset_29 rfl (lv_at hl 3 rfl) ?_
        refine lv_icmp_ne (tgt := 55) hx hb d_MM_reset_30 (by decide) (fun c10 => ?_) (fun c10 => ?_)
        · skip
          replace c10 : ¬ iMk ((kIs σ).getD i1 i0) = mk := fun q => c10 ((nI_eq (a := iMk ((kIs σ).getD i1 i0)) (b := mk) (by omega) (by omega)).mpr q)
          refine lv_iinc (v := nI (i1 + 1)) (lv' := [(3, .int (nI (i1 + 1))), (2, .int (nI cn)), (0, .ref h), (1, .int (nI mk))]) hx hb d_MM_reset_55 hl (k := 0) rfl (nI_1 _) (by decide) rfl (fun ls hl => ?_)
          refine lv_goto (tgt := 15) hx hb d_MM_reset_58 (by decide) ?_
          exact ih1 _ _ _ _ _ _ _ (by omega) (lv_sub hl [0, 1, 2, 3] rfl) hP hS hMi1 (by rw [upT_k _ _ i0 (by omega) (by simp_all [gEndI])]; exact hRi1) gli1 (by simp_all [cnt, qEnd])
        · skip
          replace c10 : iMk ((kIs σ).getD i1 i0) = mk := (nI_eq (a := iMk ((kIs σ).getD i1 i0)) (b := mk) (by omega) (by omega)).mp c10
          refine lv_aload_n hx hb d_MM_reset_33 rfl (lv_at hl 2 rfl) ?_
          refine g_get hx hb hts i_MM hown hK.1 hP (show B1 (20, 0) = some (h, .inr (5, [.ref (ad 0), .ref (ad 1), .int (nI ((kBu σ).length)), .ref (ad 3), .ref (ad 4), .ref (ad 5), .ref (ad 6), .ref (ad 7), .ref (ad 8), .ref (ad 9), .ref (ad 10), .int (nI ((kRs σ).length)), .ref (ad 12), .ref (ad 13), .ref (ad 14), .ref (ad 15), .ref (ad 16), .ref (ad 17), .ref (ad 18), .ref (ad 19), .ref (ad 20), .ref (ad 21), .int (nI ((kIs σ).length)), .int (nI (kMk σ) - 1)])) from hMi1.1) rfl 20 (by decide) (hts _ k_463) (fun _ h9 => h9) rfl d_MM_reset_34 ?_
          refine lv_iload_n hx hb d_MM_reset_37 rfl (lv_at hl 0 rfl) ?_
          refine g_zald (v := bI (iLv ((kIs σ).getD i1 i0))) hx hb hK.1 hP 1 (show B1 (41, 0) = some (ad 20, .inl (cZ, 160, .inl (Fx1 20))) from hMi1.2.1 20 rfl) rfl (vp_in_nI (show i1 < 160 by omega) (by omega)) (by rw [(nI_clamp (show i1 < 2 ^ 31 by omega))]; exact hti.2.2.2.2.2.2.1) d_MM_reset_38 ?_
          refine lv_if_ne (tgt := 45) hx hb d_MM_reset_39 (by decide) (fun c11 => ?_) (fun c11 => ?_)
          · skip
            rw [bI_0] at c11
            refine lv_iinc (v := nI (cn + 1)) (lv' := [(2, .int (nI (cn + 1))), (3, .int (nI i1)), (0, .ref h), (1, .int (nI mk))]) hx hb d_MM_reset_45 hl (k := 1) rfl (nI_1 _) (by decide) rfl (fun ls hl => ?_)
            refine lv_aload_n hx hb d_MM_reset_48 rfl (lv_at hl 2 rfl) ?_
            refine g_get hx hb hts i_MM hown hK.1 hP (show B1 (20, 0) = some (h, .inr (5, [.ref (ad 0), .ref (ad 1), .int (nI ((kBu σ).length)), .ref (ad 3), .ref (ad 4), .ref (ad 5), .ref (ad 6), .ref (ad 7), .ref (ad 8), .ref (ad 9), .ref (ad 10), .int (nI ((kRs σ).length)), .ref (ad 12), .ref (ad 13), .ref (ad 14), .ref (ad 15), .ref (ad 16), .ref (ad 17), .ref (ad 18), .ref (ad 19), .ref (ad 20), .ref (ad 21), .int (nI ((kIs σ).length)), .int (nI (kMk σ) - 1)])) from hMi1.1) rfl 20 (by decide) (hts _ k_463) (fun _ h9 => h9) rfl d_MM_reset_49 ?_
            refine lv_iload_n hx hb d_MM_reset_52 rfl (lv_at hl 1 rfl) ?_
            refine lv_iconst (v := 0) hx hb d_MM_reset_53 (by decide) ?_
            refine g_zast (k := i1) hx hb hK.1 hP hS 1 (show B1 (41, 0) = some (ad 20, .inl (cZ, 160, .inl (Fx1 20))) from hMi1.2.1 20 rfl) rfl (vp_in_nI (show i1 < 160 by omega) (by omega)) (nI_clamp (show i1 < 2 ^ 31 by omega)) rfl d_MM_reset_54 (fun H locs hP hS => ?_)
            obtain ⟨A12, eA12⟩ : ∃ z, z = gU B1 (41, 0) (ad 20, .inl (cZ, 160, .inl (upd (Fx1 20) (i1) (0)))) := ⟨_, rfl⟩
            replace hP : gP D classes b A12 H := by rw [eA12]; exact hP
            have hM13 : rMM cI cZ cL A12 h ad (va_up Fx1 20 (upd (Fx1 20) (i1) (0))) G ((kBu σ).length) ((kRs σ).length) ((kIs σ).length) (kMk σ) := by rw [eA12]; exact hMi1.put 20 rfl _
            have glA12 : gL A A12 := by rw [eA12]; exact gli1.U (by decide)
            refine lv_iinc (v := nI (i1 + 1)) (lv' := [(3, .int (nI (i1 + 1))), (2, .int (nI (cn + 1))), (0, .ref h), (1, .int (nI mk))]) hx hb d_MM_reset_55 hl (k := 1) rfl (nI_1 _) (by decide) rfl (fun ls hl => ?_)
            refine lv_goto (tgt := 15) hx hb d_MM_reset_58 (by decide) ?_
            exact ih1 _ _ _ _ _ _ _ (by omega) (lv_sub hl [0, 1, 2, 3] rfl) hP hS hM13 (by rw [upT_s _ _ i0 (by omega), show gEndI mk ((kIs σ).getD i1 i0) = iEnd ((upT (gEndI mk) i1 (kIs σ)).getD i1 i0) by rw [upT_get _ _ _ (Nat.le_refl i1)]; simp_all [gEndI]]; exact hRi1.endI (i := i1) (by show i1 < (upT (gEndI mk) i1 (kIs σ)).length; rw [upT_len]; omega)) glA12 (by simp_all [cnt, qEnd])
          · skip
            rw [bI_0] at c11
            refine lv_goto (tgt := 55) hx hb d_MM_reset_42 (by decide) ?_
            refine lv_iinc (v := nI (i1 + 1)) (lv' := [(3, .int (nI (i1 + 1))), (2, .int (nI cn)), (0, .ref h), (1, .int (nI mk))]) hx hb d_MM_reset_55 hl (k := 0) rfl (nI_1 _) (by decide) rfl (fun ls hl => ?_)
            refine lv_goto (tgt := 15) hx hb d_MM_reset_58 (by decide) ?_
            exact ih1 _ _ _ _ _ _ _ (by omega) (lv_sub hl [0, 1, 2, 3] rfl) hP hS hMi1 (by rw [upT_k _ _ i0 (by omega) (by simp_all [gEndI])]; exact hRi1) gli1 (by simp_all [cnt, qEnd])
    · skip
      refine lv_iconst (v := (-1)) hx hb d_MM_reset_9 (by decide) ?_
      have e9 : sReset σ x = (σ, -1) := by simp_all [sReset, inR, ← Int32.not_lt]
      refine W.widen (k := 0) (n := 0) (by decide) (by decide) ?_
      exact W.iret hx hb hr (fun t ht _ => ⟨⟨_, A, rfl, ⟨by rw [e9], by rw [e9]; exact hB, gL.rf⟩, show gP D classes b A t.heap by rw [ht]; exact hP⟩, hS.F ht⟩) hS.2.2 d_MM_reset_10
