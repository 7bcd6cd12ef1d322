set_option maxHeartbeats 40000000 in
set_option maxRecDepth 100000 in
theorem law_loop {p : Program} {e : Env} {s : State} {m : MethodId} {below : List Frame} {meth : Method} {c : Code} (l : Launch) {bS L : Nat} {xs : Nat → Int32} (hL : L ≤ 3072) (C0 : lw_At p s m meth c bS L xs) {D : va_G} {cI cZ cO cL : ClassId} {b e0 : Nat} (hbe : b = s.heap.size) (hK : gK D [(cI, .int), (cZ, .boolean), (cO, .object "java/lang/Object"), (cL, .long)] b e0 s s.heap) {h hm : Nat} : ∀ (n k : Nat) (σ : Bk) (B : gW) (H : Heap) (lo : List Loc) (ls : Array Slot), k + n = 512 → gP D classes b B H → gS b s.heap H lo → rBk cI cZ cO e0 B h σ → rMo cI cZ cL B hm σ → wf σ → lv_has ls 4 [(3, .int (nI (6 * k))), (2, .ref hm), (1, .ref h), (0, .ref bS)] → W p l e room_1 s m #[Value.ref bS] below meth c H lo (100 + 8 * k) (5000 + 1004 * k) (lw_Z below #[Value.ref bS] s) (F0 m 18 ls []) := by
  obtain ⟨hx, hb, hr, hml, hown, hts0, hX, hbl, hlocks, hgv⟩ := id C0
  have hts : ∀ w ∈ TT, w.before #[Value.ref bS] s = true := fun w h9 => hts0 w (TT_tbl w h9)
  have hbA : ¬ b ≤ bS := by rw [hbe]; exact Nat.not_le.mpr hbl
  intro n
  induction n with
  | zero =>
    intro k σ B H lo ls hk hP hS hB hMo hw hl
    refine lv_iload_n hx hb d_law_18 rfl (lv_at hl 0 rfl) ?_
    refine lv_aload_n hx hb d_law_19 rfl (lv_at hl 3 rfl) ?_
    refine va_slen hx hb hX hbl hbA hS d_law_20 ?_
    refine lv_bipush (v := 6) hx hb d_law_21 (by decide) ?_
    refine lv_isub hx hb d_law_23 ?_
    refine lv_icmp_gt (tgt := 623) hx hb d_law_24 (by decide) (fun _ => ?_) (fun h9 => absurd ((lawge hL (by omega)).mpr (by omega)) h9)
    refine lv_iconst (v := 1) hx hb d_law_623 (by decide) ?_
    refine va_forget (fun q hq => by rw [← hbe]; exact hS.2.2 q hq) ?_
    refine W.widen (k := 600000) (n := 7302249) (by omega) (by omega) ?_
    exact lw_ret hx hb hr hlocks d_law_624
  | succ n ih =>
    intro k σ B H lo ls hk hP hS hB hMo hw hl
    by_cases hfin : L < 6 * k + 6
    · skip
      refine lv_iload_n hx hb d_law_18 rfl (lv_at hl 0 rfl) ?_
      refine lv_aload_n hx hb d_law_19 rfl (lv_at hl 3 rfl) ?_
      refine va_slen hx hb hX hbl hbA hS d_law_20 ?_
      refine lv_bipush (v := 6) hx hb d_law_21 (by decide) ?_
      refine lv_isub hx hb d_law_23 ?_
      refine lv_icmp_gt (tgt := 623) hx hb d_law_24 (by decide) (fun _ => ?_) (fun h9 => absurd ((lawge hL (by omega)).mpr hfin) h9)
      refine lv_iconst (v := 1) hx hb d_law_623 (by decide) ?_
      refine va_forget (fun q hq => by rw [← hbe]; exact hS.2.2 q hq) ?_
      refine W.widen (k := 600000) (n := 7302249) (by omega) (by omega) ?_
      exact lw_ret hx hb hr hlocks d_law_624
    · skip
      have hback : ∀ (σ2 : Bk) (B2 : gW) (H2 : Heap) (lo2 : List Loc) (ls2 : Array Slot), gP D classes b B2 H2 → gS b s.heap H2 lo2 → rBk cI cZ cO e0 B2 h σ2 → rMo cI cZ cL B2 hm σ2 → wf σ2 → lv_has ls2 4 [(3, .int (nI (6 * k))), (2, .ref hm), (1, .ref h), (0, .ref bS)] → W p l e room_1 s m #[Value.ref bS] below meth c H2 lo2 (100 + 8 * (k + 1)) (5000 + 1004 * (k + 1)) (lw_Z below #[Value.ref bS] s) (F0 m 617 ls2 []) := by
        intro σ2 B2 H2 lo2 ls hP hS hB hMo hw hl
        refine lv_iinc (v := nI (6 * (k + 1))) (lv' := [(3, .int (nI (6 * (k + 1)))), (2, .ref hm), (1, .ref h), (0, .ref bS)]) hx hb d_law_617 hl (k := 0) rfl (nI_add (6 * k) 6) (by decide) rfl (fun ls hl => ?_)
        refine lv_goto (tgt := 18) hx hb d_law_620 (by decide) ?_
        exact ih (k + 1) σ2 B2 H2 lo2 _ (by omega) hP hS hB hMo hw hl
      obtain ⟨_, _, _, _, _, _, _, _, fB, -⟩ := id hB
      obtain ⟨_, _, _, hMM, -⟩ := id hMo
      refine lv_iload_n hx hb d_law_18 rfl (lv_at hl 0 rfl) ?_
      refine lv_aload_n hx hb d_law_19 rfl (lv_at hl 3 rfl) ?_
      refine va_slen hx hb hX hbl hbA hS d_law_20 ?_
      refine lv_bipush (v := 6) hx hb d_law_21 (by decide) ?_
      refine lv_isub hx hb d_law_23 ?_
      refine lv_icmp_gt (tgt := 623) hx hb d_law_24 (by decide) (fun h9 => absurd h9 (fun q9 => hfin ((lawge hL (by omega)).mp q9))) (fun _ => ?_)
      refine lv_aload_n hx hb d_law_27 rfl (lv_at hl 3 rfl) ?_
      refine lv_iload_n hx hb d_law_28 rfl (lv_at hl 0 rfl) ?_
      refine va_sld hx hb hX hbl hbA hS (vp_in_nI (show 6 * k < L by omega) (by omega)) d_law_29 ?_
      rw [nI_clamp (show 6 * k < 2 ^ 31 by omega)]
      refine lv_bipush (v := 15) hx hb d_law_30 (by decide) ?_
      refine lv_iand hx hb d_law_32 ?_
      by_cases c3 : (xs (6 * k)) &&& 15 = 0
      · refine lv_tableIn (off := 79) (tgt := 112) hx hb d_law_33 (by rw [c3]; decide) (by rw [c3]; decide) (by rw [c3]; rfl) (by decide) ?_
        refine lv_aload_n hx hb d_law_112 rfl (lv_at hl 2 rfl) ?_
        refine lv_aload_n hx hb d_law_113 rfl (lv_at hl 3 rfl) ?_
        refine lv_iload_n hx hb d_law_114 rfl (lv_at hl 0 rfl) ?_
        refine lv_iconst (v := 1) hx hb d_law_115 (by decide) ?_
        refine lv_iadd hx hb d_law_116 ?_
        rw [show nI (6 * k) + 1 = nI (6 * k + 1) from nI_add _ 1]
        refine va_sld hx hb hX hbl hbA hS (vp_in_nI (show 6 * k + 1 < L by omega) (by omega)) d_law_117 ?_
        rw [nI_clamp (show 6 * k + 1 < 2 ^ 31 by omega)]
        refine lv_aload_n hx hb d_law_118 rfl (lv_at hl 3 rfl) ?_
        refine lv_iload_n hx hb d_law_119 rfl (lv_at hl 0 rfl) ?_
        refine lv_iconst (v := 2) hx hb d_law_120 (by decide) ?_
        refine lv_iadd hx hb d_law_121 ?_
        rw [show nI (6 * k) + 2 = nI (6 * k + 2) from nI_add _ 2]
        refine va_sld hx hb hX hbl hbA hS (vp_in_nI (show 6 * k + 2 < L by omega) (by omega)) d_law_122 ?_
        rw [nI_clamp (show 6 * k + 2 < 2 ^ 31 by omega)]
        refine g_ci (B := fun A2 H => gP D classes b A2 H) (g_runV (As := [.int (xs (6 * k + 1)), .int (xs (6 * k + 2))]) (rest := []) ⟨hx, hb, hml, hown, hts⟩ (c_MB_matcher l hB hw (xs (6 * k + 1)) (xs (6 * k + 2))) st_MB_matcher k_84 ⟨rfl, rfl, by decide, by decide⟩ rfl (gI.preV hK hS hP fB rfl _) rfl hl.1 rfl (Nat.le_of_ble_eq_true rfl) d_law_123 ⟨by show _ ≤ 600000; omega, by show _ ≤ 7302249; omega⟩) hS (fun r6 A4 H locs hp5 hP hS => ?_)
        replace hP : gP D classes b A4 H := hP
        obtain ⟨hz1, hB2, go2⟩ := hp5
        have hMo2 := hMo.keep go2
        obtain ⟨_, _, _, hMM2, -⟩ := id hMo2
        rw [hz1]
        refine lv_aload_n hx hb d_law_126 rfl (lv_at hl 1 rfl) ?_
        refine lv_aload_n hx hb d_law_127 rfl (lv_at hl 3 rfl) ?_
        refine lv_iload_n hx hb d_law_128 rfl (lv_at hl 0 rfl) ?_
        refine lv_iconst (v := 1) hx hb d_law_129 (by decide) ?_
        refine lv_iadd hx hb d_law_130 ?_
        rw [show nI (6 * k) + 1 = nI (6 * k + 1) from nI_add _ 1]
        refine va_sld hx hb hX hbl hbA hS (vp_in_nI (show 6 * k + 1 < L by omega) (by omega)) d_law_131 ?_
        rw [nI_clamp (show 6 * k + 1 < 2 ^ 31 by omega)]
        refine lv_aload_n hx hb d_law_132 rfl (lv_at hl 3 rfl) ?_
        refine lv_iload_n hx hb d_law_133 rfl (lv_at hl 0 rfl) ?_
        refine lv_iconst (v := 2) hx hb d_law_134 (by decide) ?_
        refine lv_iadd hx hb d_law_135 ?_
        rw [show nI (6 * k) + 2 = nI (6 * k + 2) from nI_add _ 2]
        refine va_sld hx hb hX hbl hbA hS (vp_in_nI (show 6 * k + 2 < L by omega) (by omega)) d_law_136 ?_
        rw [nI_clamp (show 6 * k + 2 < 2 ^ 31 by omega)]
        refine g_ci (B := fun A2 H => gP D classes b A2 H) (g_runV (As := [.int (xs (6 * k + 1)), .int (xs (6 * k + 2))]) (rest := [.int ((sMatcher σ (xs (6 * k + 1)) (xs (6 * k + 2))).2)]) ⟨hx, hb, hml, hown, hts⟩ (c_MM_matcher l hMo2 hw (xs (6 * k + 1)) (xs (6 * k + 2))) st_MM_matcher k_517 ⟨rfl, rfl, by decide, by decide⟩ rfl (gI.preV hK hS hP hMM2.1 rfl _) rfl hl.1 rfl (Nat.le_of_ble_eq_true rfl) d_law_137 ⟨by show _ ≤ 600000; omega, by show _ ≤ 7302249; omega⟩) hS (fun r9 A7 H locs hp8 hP hS => ?_)
        replace hP : gP D classes b A7 H := hP
        obtain ⟨hz2, hMo3, gl3⟩ := hp8
        have hB3 := hB2.keep gl3
        rw [hz2]
        refine lv_icmp_eq (tgt := 617) hx hb d_law_140 (by decide) (fun _ => ?_) (fun h9 => absurd rfl h9)
        refine W.widen (k := 100 + 8 * (k + 1)) (n := 5000 + 1004 * (k + 1)) (by omega) (by omega) ?_
        exact hback _ _ _ _ _ hP hS hB3 hMo3 (hw.matcher _ _) hl
      by_cases c11 : (xs (6 * k)) &&& 15 = 1
      · refine lv_tableIn (off := 112) (tgt := 145) hx hb d_law_33 (by rw [c11]; decide) (by rw [c11]; decide) (by rw [c11]; rfl) (by decide) ?_
        refine lv_aload_n hx hb d_law_145 rfl (lv_at hl 2 rfl) ?_
        refine g_cv (B := fun A2 H => gP D classes b A2 H) (g_runV (As := []) (rest := []) ⟨hx, hb, hml, hown, hts⟩ (c_MB_drop l hB hw) st_MB_drop k_95 ⟨rfl, rfl, by decide, by decide⟩ rfl (gI.preV hK hS hP fB rfl _) rfl hl.1 rfl (Nat.le_of_ble_eq_true rfl) d_law_146 ⟨by show _ ≤ 600000; omega, by show _ ≤ 7302249; omega⟩) hS (fun A12 H locs hp13 hP hS => ?_)
        replace hP : gP D classes b A12 H := hP
        obtain ⟨hB2, go2⟩ := hp13
        have hMo2 := hMo.keep go2
        obtain ⟨_, _, _, hMM2, -⟩ := id hMo2
        refine lv_aload_n hx hb d_law_149 rfl (lv_at hl 1 rfl) ?_
        refine g_cv (B := fun A2 H => gP D classes b A2 H) (g_runV (As := []) (rest := []) ⟨hx, hb, hml, hown, hts⟩ (c_MM_drop l hMo2 hw) st_MM_drop k_521 ⟨rfl, rfl, by decide, by decide⟩ rfl (gI.preV hK hS hP hMM2.1 rfl _) rfl hl.1 rfl (Nat.le_of_ble_eq_true rfl) d_law_150 ⟨by show _ ≤ 600000; omega, by show _ ≤ 7302249; omega⟩) hS (fun A14 H locs hp15 hP hS => ?_)
        replace hP : gP D classes b A14 H := hP
        obtain ⟨hMo3, gl3⟩ := hp15
        have hB3 := hB2.keep gl3
        refine lv_goto (tgt := 617) hx hb d_law_153 (by decide) ?_
        refine W.widen (k := 100 + 8 * (k + 1)) (n := 5000 + 1004 * (k + 1)) (by omega) (by omega) ?_
        exact hback _ _ _ _ _ hP hS hB3 hMo3 (hw.drop) hl
      by_cases c16 : (xs (6 * k)) &&& 15 = 2
      · refine lv_tableIn (off := 123) (tgt := 156) hx hb d_law_33 (by rw [c16]; decide) (by rw [c16]; decide) (by rw [c16]; rfl) (by decide) ?_
        refine lv_aload_n hx hb d_law_156 rfl (lv_at hl 2 rfl) ?_
        refine lv_aload_n hx hb d_law_157 rfl (lv_at hl 3 rfl) ?_
        refine lv_iload_n hx hb d_law_158 rfl (lv_at hl 0 rfl) ?_
        refine lv_iconst (v := 1) hx hb d_law_159 (by decide) ?_
        refine lv_iadd hx hb d_law_160 ?_
        rw [show nI (6 * k) + 1 = nI (6 * k + 1) from nI_add _ 1]
        refine va_sld hx hb hX hbl hbA hS (vp_in_nI (show 6 * k + 1 < L by omega) (by omega)) d_law_161 ?_
        rw [nI_clamp (show 6 * k + 1 < 2 ^ 31 by omega)]
        refine lv_aload_n hx hb d_law_162 rfl (lv_at hl 3 rfl) ?_
        refine lv_iload_n hx hb d_law_163 rfl (lv_at hl 0 rfl) ?_
        refine lv_iconst (v := 2) hx hb d_law_164 (by decide) ?_
        refine lv_iadd hx hb d_law_165 ?_
        rw [show nI (6 * k) + 2 = nI (6 * k + 2) from nI_add _ 2]
        refine va_sld hx hb hX hbl hbA hS (vp_in_nI (show 6 * k + 2 < L by omega) (by omega)) d_law_166 ?_
        rw [nI_clamp (show 6 * k + 2 < 2 ^ 31 by omega)]
        refine g_ci (B := fun A2 H => gP D classes b A2 H) (g_runV (As := [.int (xs (6 * k + 1)), .int (xs (6 * k + 2))]) (rest := []) ⟨hx, hb, hml, hown, hts⟩ (c_MB_rule l hB hw (xs (6 * k + 1)) (xs (6 * k + 2))) st_MB_rule k_103 ⟨rfl, rfl, by decide, by decide⟩ rfl (gI.preV hK hS hP fB rfl _) rfl hl.1 rfl (Nat.le_of_ble_eq_true rfl) d_law_167 ⟨by show _ ≤ 600000; omega, by show _ ≤ 7302249; omega⟩) hS (fun r19 A17 H locs hp18 hP hS => ?_)
        replace hP : gP D classes b A17 H := hP
        obtain ⟨hz1, hB2, go2⟩ := hp18
        have hMo2 := hMo.keep go2
        obtain ⟨_, _, _, hMM2, -⟩ := id hMo2
        rw [hz1]
        refine lv_aload_n hx hb d_law_170 rfl (lv_at hl 1 rfl) ?_
        refine lv_aload_n hx hb d_law_171 rfl (lv_at hl 3 rfl) ?_
        refine lv_iload_n hx hb d_law_172 rfl (lv_at hl 0 rfl) ?_
        refine lv_iconst (v := 1) hx hb d_law_173 (by decide) ?_
        refine lv_iadd hx hb d_law_174 ?_
        rw [show nI (6 * k) + 1 = nI (6 * k + 1) from nI_add _ 1]
        refine va_sld hx hb hX hbl hbA hS (vp_in_nI (show 6 * k + 1 < L by omega) (by omega)) d_law_175 ?_
        rw [nI_clamp (show 6 * k + 1 < 2 ^ 31 by omega)]
        refine lv_aload_n hx hb d_law_176 rfl (lv_at hl 3 rfl) ?_
        refine lv_iload_n hx hb d_law_177 rfl (lv_at hl 0 rfl) ?_
        refine lv_iconst (v := 2) hx hb d_law_178 (by decide) ?_
        refine lv_iadd hx hb d_law_179 ?_
        rw [show nI (6 * k) + 2 = nI (6 * k + 2) from nI_add _ 2]
        refine va_sld hx hb hX hbl hbA hS (vp_in_nI (show 6 * k + 2 < L by omega) (by omega)) d_law_180 ?_
        rw [nI_clamp (show 6 * k + 2 < 2 ^ 31 by omega)]
        refine g_ci (B := fun A2 H => gP D classes b A2 H) (g_runV (As := [.int (xs (6 * k + 1)), .int (xs (6 * k + 2))]) (rest := [.int ((sRule σ (xs (6 * k + 1)) (xs (6 * k + 2))).2)]) ⟨hx, hb, hml, hown, hts⟩ (c_MM_rule l hMo2 hw (xs (6 * k + 1)) (xs (6 * k + 2))) st_MM_rule k_525 ⟨rfl, rfl, by decide, by decide⟩ rfl (gI.preV hK hS hP hMM2.1 rfl _) rfl hl.1 rfl (Nat.le_of_ble_eq_true rfl) d_law_181 ⟨by show _ ≤ 600000; omega, by show _ ≤ 7302249; omega⟩) hS (fun r22 A20 H locs hp21 hP hS => ?_)
        replace hP : gP D classes b A20 H := hP
        obtain ⟨hz2, hMo3, gl3⟩ := hp21
        have hB3 := hB2.keep gl3
        rw [hz2]
        refine lv_icmp_eq (tgt := 617) hx hb d_law_184 (by decide) (fun _ => ?_) (fun h9 => absurd rfl h9)
        refine W.widen (k := 100 + 8 * (k + 1)) (n := 5000 + 1004 * (k + 1)) (by omega) (by omega) ?_
        exact hback _ _ _ _ _ hP hS hB3 hMo3 (hw.rule _ _) hl
      by_cases c24 : (xs (6 * k)) &&& 15 = 3
      · refine lv_tableIn (off := 156) (tgt := 189) hx hb d_law_33 (by rw [c24]; decide) (by rw [c24]; decide) (by rw [c24]; rfl) (by decide) ?_
        refine lv_aload_n hx hb d_law_189 rfl (lv_at hl 2 rfl) ?_
        refine lv_aload_n hx hb d_law_190 rfl (lv_at hl 3 rfl) ?_
        refine lv_iload_n hx hb d_law_191 rfl (lv_at hl 0 rfl) ?_
        refine lv_iconst (v := 1) hx hb d_law_192 (by decide) ?_
        refine lv_iadd hx hb d_law_193 ?_
        rw [show nI (6 * k) + 1 = nI (6 * k + 1) from nI_add _ 1]
        refine va_sld hx hb hX hbl hbA hS (vp_in_nI (show 6 * k + 1 < L by omega) (by omega)) d_law_194 ?_
        rw [nI_clamp (show 6 * k + 1 < 2 ^ 31 by omega)]
        refine lv_aload_n hx hb d_law_195 rfl (lv_at hl 3 rfl) ?_
        refine lv_iload_n hx hb d_law_196 rfl (lv_at hl 0 rfl) ?_
        refine lv_iconst (v := 2) hx hb d_law_197 (by decide) ?_
        refine lv_iadd hx hb d_law_198 ?_
        rw [show nI (6 * k) + 2 = nI (6 * k + 2) from nI_add _ 2]
        refine va_sld hx hb hX hbl hbA hS (vp_in_nI (show 6 * k + 2 < L by omega) (by omega)) d_law_199 ?_
        rw [nI_clamp (show 6 * k + 2 < 2 ^ 31 by omega)]
        refine lv_aload_n hx hb d_law_200 rfl (lv_at hl 3 rfl) ?_
        refine lv_iload_n hx hb d_law_201 rfl (lv_at hl 0 rfl) ?_
        refine lv_iconst (v := 3) hx hb d_law_202 (by decide) ?_
        refine lv_iadd hx hb d_law_203 ?_
        rw [show nI (6 * k) + 3 = nI (6 * k + 3) from nI_add _ 3]
        refine va_sld hx hb hX hbl hbA hS (vp_in_nI (show 6 * k + 3 < L by omega) (by omega)) d_law_204 ?_
        rw [nI_clamp (show 6 * k + 3 < 2 ^ 31 by omega)]
        refine g_ci (B := fun A2 H => gP D classes b A2 H) (g_runV (As := [.int (xs (6 * k + 1)), .int (xs (6 * k + 2)), .int (xs (6 * k + 3))]) (rest := []) ⟨hx, hb, hml, hown, hts⟩ (c_MB_then l hB hw (xs (6 * k + 1)) (xs (6 * k + 2)) (xs (6 * k + 3))) st_MB_then k_214 ⟨rfl, rfl, by decide, by decide⟩ rfl (gI.preV hK hS hP fB rfl _) rfl hl.1 rfl (Nat.le_of_ble_eq_true rfl) d_law_205 ⟨by show _ ≤ 600000; omega, by show _ ≤ 7302249; omega⟩) hS (fun r27 A25 H locs hp26 hP hS => ?_)
        replace hP : gP D classes b A25 H := hP
        obtain ⟨hz1, hB2, go2⟩ := hp26
        have hMo2 := hMo.keep go2
        obtain ⟨_, _, _, hMM2, -⟩ := id hMo2
        rw [hz1]
        refine lv_aload_n hx hb d_law_208 rfl (lv_at hl 1 rfl) ?_
        refine lv_aload_n hx hb d_law_209 rfl (lv_at hl 3 rfl) ?_
        refine lv_iload_n hx hb d_law_210 rfl (lv_at hl 0 rfl) ?_
        refine lv_iconst (v := 1) hx hb d_law_211 (by decide) ?_
        refine lv_iadd hx hb d_law_212 ?_
        rw [show nI (6 * k) + 1 = nI (6 * k + 1) from nI_add _ 1]
        refine va_sld hx hb hX hbl hbA hS (vp_in_nI (show 6 * k + 1 < L by omega) (by omega)) d_law_213 ?_
        rw [nI_clamp (show 6 * k + 1 < 2 ^ 31 by omega)]
        refine lv_aload_n hx hb d_law_214 rfl (lv_at hl 3 rfl) ?_
        refine lv_iload_n hx hb d_law_215 rfl (lv_at hl 0 rfl) ?_
        refine lv_iconst (v := 2) hx hb d_law_216 (by decide) ?_
        refine lv_iadd hx hb d_law_217 ?_
        rw [show nI (6 * k) + 2 = nI (6 * k + 2) from nI_add _ 2]
        refine va_sld hx hb hX hbl hbA hS (vp_in_nI (show 6 * k + 2 < L by omega) (by omega)) d_law_218 ?_
        rw [nI_clamp (show 6 * k + 2 < 2 ^ 31 by omega)]
        refine lv_aload_n hx hb d_law_219 rfl (lv_at hl 3 rfl) ?_
        refine lv_iload_n hx hb d_law_220 rfl (lv_at hl 0 rfl) ?_
        refine lv_iconst (v := 3) hx hb d_law_221 (by decide) ?_
        refine lv_iadd hx hb d_law_222 ?_
        rw [show nI (6 * k) + 3 = nI (6 * k + 3) from nI_add _ 3]
        refine va_sld hx hb hX hbl hbA hS (vp_in_nI (show 6 * k + 3 < L by omega) (by omega)) d_law_223 ?_
        rw [nI_clamp (show 6 * k + 3 < 2 ^ 31 by omega)]
        refine g_ci (B := fun A2 H => gP D classes b A2 H) (g_runV (As := [.int (xs (6 * k + 1)), .int (xs (6 * k + 2)), .int (xs (6 * k + 3))]) (rest := [.int ((sThen σ (xs (6 * k + 1)) (xs (6 * k + 2)) (xs (6 * k + 3))).2)]) ⟨hx, hb, hml, hown, hts⟩ (c_MM_then l hMo2 hw (xs (6 * k + 1)) (xs (6 * k + 2)) (xs (6 * k + 3))) st_MM_then k_532 ⟨rfl, rfl, by decide, by decide⟩ rfl (gI.preV hK hS hP hMM2.1 rfl _) rfl hl.1 rfl (Nat.le_of_ble_eq_true rfl) d_law_224 ⟨by show _ ≤ 600000; omega, by show _ ≤ 7302249; omega⟩) hS (fun r30 A28 H locs hp29 hP hS => ?_)
        replace hP : gP D classes b A28 H := hP
        obtain ⟨hz2, hMo3, gl3⟩ := hp29
        have hB3 := hB2.keep gl3
        rw [hz2]
        refine lv_icmp_eq (tgt := 617) hx hb d_law_227 (by decide) (fun _ => ?_) (fun h9 => absurd rfl h9)
        refine W.widen (k := 100 + 8 * (k + 1)) (n := 5000 + 1004 * (k + 1)) (by omega) (by omega) ?_
        exact hback _ _ _ _ _ hP hS hB3 hMo3 (hw.thn _ _ _) hl
      by_cases c32 : (xs (6 * k)) &&& 15 = 4
      · refine lv_tableIn (off := 199) (tgt := 232) hx hb d_law_33 (by rw [c32]; decide) (by rw [c32]; decide) (by rw [c32]; rfl) (by decide) ?_
        refine lv_aload_n hx hb d_law_232 rfl (lv_at hl 2 rfl) ?_
        refine lv_aload_n hx hb d_law_233 rfl (lv_at hl 3 rfl) ?_
        refine lv_iload_n hx hb d_law_234 rfl (lv_at hl 0 rfl) ?_
        refine lv_iconst (v := 1) hx hb d_law_235 (by decide) ?_
        refine lv_iadd hx hb d_law_236 ?_
        rw [show nI (6 * k) + 1 = nI (6 * k + 1) from nI_add _ 1]
        refine va_sld hx hb hX hbl hbA hS (vp_in_nI (show 6 * k + 1 < L by omega) (by omega)) d_law_237 ?_
        rw [nI_clamp (show 6 * k + 1 < 2 ^ 31 by omega)]
        refine lv_aload_n hx hb d_law_238 rfl (lv_at hl 3 rfl) ?_
        refine lv_iload_n hx hb d_law_239 rfl (lv_at hl 0 rfl) ?_
        refine lv_iconst (v := 2) hx hb d_law_240 (by decide) ?_
        refine lv_iadd hx hb d_law_241 ?_
        rw [show nI (6 * k) + 2 = nI (6 * k + 2) from nI_add _ 2]
        refine va_sld hx hb hX hbl hbA hS (vp_in_nI (show 6 * k + 2 < L by omega) (by omega)) d_law_242 ?_
        rw [nI_clamp (show 6 * k + 2 < 2 ^ 31 by omega)]
        refine lv_if_eq (tgt := 250) hx hb d_law_243 (by decide) (fun c33 => ?_) (fun c33 => ?_)
        · skip
          refine lv_iconst (v := 0) hx hb d_law_250 (by decide) ?_
          refine g_ci (B := fun A2 H => gP D classes b A2 H) (g_runV (As := [.int (xs (6 * k + 1)), .int (bI false)]) (rest := []) ⟨hx, hb, hml, hown, hts⟩ (c_MB_strict l hB hw (xs (6 * k + 1)) false) st_MB_strict k_246 ⟨rfl, rfl, by decide, by decide⟩ rfl (gI.preV hK hS hP fB rfl _) rfl hl.1 rfl (Nat.le_of_ble_eq_true rfl) d_law_251 ⟨by show _ ≤ 600000; omega, by show _ ≤ 7302249; omega⟩) hS (fun r36 A34 H locs hp35 hP hS => ?_)
          replace hP : gP D classes b A34 H := hP
          obtain ⟨hz1, hB2, go2⟩ := hp35
          have hMo2 := hMo.keep go2
          obtain ⟨_, _, _, hMM2, -⟩ := id hMo2
          rw [hz1]
          refine lv_aload_n hx hb d_law_254 rfl (lv_at hl 1 rfl) ?_
          refine lv_aload_n hx hb d_law_255 rfl (lv_at hl 3 rfl) ?_
          refine lv_iload_n hx hb d_law_256 rfl (lv_at hl 0 rfl) ?_
          refine lv_iconst (v := 1) hx hb d_law_257 (by decide) ?_
          refine lv_iadd hx hb d_law_258 ?_
          rw [show nI (6 * k) + 1 = nI (6 * k + 1) from nI_add _ 1]
          refine va_sld hx hb hX hbl hbA hS (vp_in_nI (show 6 * k + 1 < L by omega) (by omega)) d_law_259 ?_
          rw [nI_clamp (show 6 * k + 1 < 2 ^ 31 by omega)]
          refine lv_aload_n hx hb d_law_260 rfl (lv_at hl 3 rfl) ?_
          refine lv_iload_n hx hb d_law_261 rfl (lv_at hl 0 rfl) ?_
          refine lv_iconst (v := 2) hx hb d_law_262 (by decide) ?_
          refine lv_iadd hx hb d_law_263 ?_
          rw [show nI (6 * k) + 2 = nI (6 * k + 2) from nI_add _ 2]
          refine va_sld hx hb hX hbl hbA hS (vp_in_nI (show 6 * k + 2 < L by omega) (by omega)) d_law_264 ?_
          rw [nI_clamp (show 6 * k + 2 < 2 ^ 31 by omega)]
          refine lv_if_eq (tgt := 272) hx hb d_law_265 (by decide) (fun _ => ?_) (fun h9 => absurd c33 h9)
          refine lv_iconst (v := 0) hx hb d_law_272 (by decide) ?_
          refine g_ci (B := fun A2 H => gP D classes b A2 H) (g_runV (As := [.int (xs (6 * k + 1)), .int (bI false)]) (rest := [.int ((sStrict σ (xs (6 * k + 1)) false).2)]) ⟨hx, hb, hml, hown, hts⟩ (c_MM_strict l hMo2 hw (xs (6 * k + 1)) false) st_MM_strict k_536 ⟨rfl, rfl, by decide, by decide⟩ rfl (gI.preV hK hS hP hMM2.1 rfl _) rfl hl.1 rfl (Nat.le_of_ble_eq_true rfl) d_law_273 ⟨by show _ ≤ 600000; omega, by show _ ≤ 7302249; omega⟩) hS (fun r40 A38 H locs hp39 hP hS => ?_)
          replace hP : gP D classes b A38 H := hP
          obtain ⟨hz2, hMo3, gl3⟩ := hp39
          have hB3 := hB2.keep gl3
          rw [hz2]
          refine lv_icmp_eq (tgt := 617) hx hb d_law_276 (by decide) (fun _ => ?_) (fun h9 => absurd rfl h9)
          refine W.widen (k := 100 + 8 * (k + 1)) (n := 5000 + 1004 * (k + 1)) (by omega) (by omega) ?_
          exact hback _ _ _ _ _ hP hS hB3 hMo3 (hw.strict _ _) hl
        · skip
          refine lv_iconst (v := 1) hx hb d_law_246 (by decide) ?_
          refine lv_goto (tgt := 251) hx hb d_law_247 (by decide) ?_
          refine g_ci (B := fun A2 H => gP D classes b A2 H) (g_runV (As := [.int (xs (6 * k + 1)), .int (bI true)]) (rest := []) ⟨hx, hb, hml, hown, hts⟩ (c_MB_strict l hB hw (xs (6 * k + 1)) true) st_MB_strict k_246 ⟨rfl, rfl, by decide, by decide⟩ rfl (gI.preV hK hS hP fB rfl _) rfl hl.1 rfl (Nat.le_of_ble_eq_true rfl) d_law_251 ⟨by show _ ≤ 600000; omega, by show _ ≤ 7302249; omega⟩) hS (fun r44 A42 H locs hp43 hP hS => ?_)
          replace hP : gP D classes b A42 H := hP
          obtain ⟨hz1, hB2, go2⟩ := hp43
          have hMo2 := hMo.keep go2
          obtain ⟨_, _, _, hMM2, -⟩ := id hMo2
          rw [hz1]
          refine lv_aload_n hx hb d_law_254 rfl (lv_at hl 1 rfl) ?_
          refine lv_aload_n hx hb d_law_255 rfl (lv_at hl 3 rfl) ?_
          refine lv_iload_n hx hb d_law_256 rfl (lv_at hl 0 rfl) ?_
          refine lv_iconst (v := 1) hx hb d_law_257 (by decide) ?_
          refine lv_iadd hx hb d_law_258 ?_
          rw [show nI (6 * k) + 1 = nI (6 * k + 1) from nI_add _ 1]
          refine va_sld hx hb hX hbl hbA hS (vp_in_nI (show 6 * k + 1 < L by omega) (by omega)) d_law_259 ?_
          rw [nI_clamp (show 6 * k + 1 < 2 ^ 31 by omega)]
          refine lv_aload_n hx hb d_law_260 rfl (lv_at hl 3 rfl) ?_
          refine lv_iload_n hx hb d_law_261 rfl (lv_at hl 0 rfl) ?_
          refine lv_iconst (v := 2) hx hb d_law_262 (by decide) ?_
          refine lv_iadd hx hb d_law_263 ?_
          rw [show nI (6 * k) + 2 = nI (6 * k + 2) from nI_add _ 2]
          refine va_sld hx hb hX hbl hbA hS (vp_in_nI (show 6 * k + 2 < L by omega) (by omega)) d_law_264 ?_
          rw [nI_clamp (show 6 * k + 2 < 2 ^ 31 by omega)]
          refine lv_if_eq (tgt := 272) hx hb d_law_265 (by decide) (fun h9 => absurd h9 c33) (fun _ => ?_)
          refine lv_iconst (v := 1) hx hb d_law_268 (by decide) ?_
          refine lv_goto (tgt := 273) hx hb d_law_269 (by decide) ?_
          refine g_ci (B := fun A2 H => gP D classes b A2 H) (g_runV (As := [.int (xs (6 * k + 1)), .int (bI true)]) (rest := [.int ((sStrict σ (xs (6 * k + 1)) true).2)]) ⟨hx, hb, hml, hown, hts⟩ (c_MM_strict l hMo2 hw (xs (6 * k + 1)) true) st_MM_strict k_536 ⟨rfl, rfl, by decide, by decide⟩ rfl (gI.preV hK hS hP hMM2.1 rfl _) rfl hl.1 rfl (Nat.le_of_ble_eq_true rfl) d_law_273 ⟨by show _ ≤ 600000; omega, by show _ ≤ 7302249; omega⟩) hS (fun r48 A46 H locs hp47 hP hS => ?_)
          replace hP : gP D classes b A46 H := hP
          obtain ⟨hz2, hMo3, gl3⟩ := hp47
          have hB3 := hB2.keep gl3
          rw [hz2]
          refine lv_icmp_eq (tgt := 617) hx hb d_law_276 (by decide) (fun _ => ?_) (fun h9 => absurd rfl h9)
          refine W.widen (k := 100 + 8 * (k + 1)) (n := 5000 + 1004 * (k + 1)) (by omega) (by omega) ?_
          exact hback _ _ _ _ _ hP hS hB3 hMo3 (hw.strict _ _) hl
      by_cases c50 : (xs (6 * k)) &&& 15 = 5
      · refine lv_tableIn (off := 248) (tgt := 281) hx hb d_law_33 (by rw [c50]; decide) (by rw [c50]; decide) (by rw [c50]; rfl) (by decide) ?_
        refine lv_aload_n hx hb d_law_281 rfl (lv_at hl 2 rfl) ?_
        refine lv_aload_n hx hb d_law_282 rfl (lv_at hl 3 rfl) ?_
        refine lv_iload_n hx hb d_law_283 rfl (lv_at hl 0 rfl) ?_
        refine lv_iconst (v := 1) hx hb d_law_284 (by decide) ?_
        refine lv_iadd hx hb d_law_285 ?_
        rw [show nI (6 * k) + 1 = nI (6 * k + 1) from nI_add _ 1]
        refine va_sld hx hb hX hbl hbA hS (vp_in_nI (show 6 * k + 1 < L by omega) (by omega)) d_law_286 ?_
        rw [nI_clamp (show 6 * k + 1 < 2 ^ 31 by omega)]
        refine lv_aload_n hx hb d_law_287 rfl (lv_at hl 3 rfl) ?_
        refine lv_iload_n hx hb d_law_288 rfl (lv_at hl 0 rfl) ?_
        refine lv_iconst (v := 2) hx hb d_law_289 (by decide) ?_
        refine lv_iadd hx hb d_law_290 ?_
        rw [show nI (6 * k) + 2 = nI (6 * k + 2) from nI_add _ 2]
        refine va_sld hx hb hX hbl hbA hS (vp_in_nI (show 6 * k + 2 < L by omega) (by omega)) d_law_291 ?_
        rw [nI_clamp (show 6 * k + 2 < 2 ^ 31 by omega)]
        refine lv_aload_n hx hb d_law_292 rfl (lv_at hl 3 rfl) ?_
        refine lv_iload_n hx hb d_law_293 rfl (lv_at hl 0 rfl) ?_
        refine lv_iconst (v := 3) hx hb d_law_294 (by decide) ?_
        refine lv_iadd hx hb d_law_295 ?_
        rw [show nI (6 * k) + 3 = nI (6 * k + 3) from nI_add _ 3]
        refine va_sld hx hb hX hbl hbA hS (vp_in_nI (show 6 * k + 3 < L by omega) (by omega)) d_law_296 ?_
        rw [nI_clamp (show 6 * k + 3 < 2 ^ 31 by omega)]
        refine lv_aload_n hx hb d_law_297 rfl (lv_at hl 3 rfl) ?_
        refine lv_iload_n hx hb d_law_298 rfl (lv_at hl 0 rfl) ?_
        refine lv_iconst (v := 4) hx hb d_law_299 (by decide) ?_
        refine lv_iadd hx hb d_law_300 ?_
        rw [show nI (6 * k) + 4 = nI (6 * k + 4) from nI_add _ 4]
        refine va_sld hx hb hX hbl hbA hS (vp_in_nI (show 6 * k + 4 < L by omega) (by omega)) d_law_301 ?_
        rw [nI_clamp (show 6 * k + 4 < 2 ^ 31 by omega)]
        refine lv_aload_n hx hb d_law_302 rfl (lv_at hl 3 rfl) ?_
        refine lv_iload_n hx hb d_law_303 rfl (lv_at hl 0 rfl) ?_
        refine lv_iconst (v := 5) hx hb d_law_304 (by decide) ?_
        refine lv_iadd hx hb d_law_305 ?_
        rw [show nI (6 * k) + 5 = nI (6 * k + 5) from nI_add _ 5]
        refine va_sld hx hb hX hbl hbA hS (vp_in_nI (show 6 * k + 5 < L by omega) (by omega)) d_law_306 ?_
        rw [nI_clamp (show 6 * k + 5 < 2 ^ 31 by omega)]
        refine g_cl (B := fun A2 H => gP D classes b A2 H) (g_runV (As := [.int (xs (6 * k + 1)), .int (xs (6 * k + 2)), .int (xs (6 * k + 3)), .int (xs (6 * k + 4)), .int (xs (6 * k + 5))]) (rest := []) ⟨hx, hb, hml, hown, hts⟩ (c_MB_call l hB hw (xs (6 * k + 1)) (xs (6 * k + 2)) (xs (6 * k + 3)) (xs (6 * k + 4)) (xs (6 * k + 5))) st_MB_call k_253 ⟨rfl, rfl, by decide, by decide⟩ rfl (gI.preV hK hS hP fB rfl _) rfl hl.1 rfl (Nat.le_of_ble_eq_true rfl) d_law_307 ⟨by show _ ≤ 600000; omega, by show _ ≤ 7302249; omega⟩) hS (fun r53 A51 H locs hp52 hP hS => ?_)
        replace hP : gP D classes b A51 H := hP
        obtain ⟨hz1, hB2, go2⟩ := hp52
        have hMo2 := hMo.keep go2
        obtain ⟨_, _, _, hMM2, -⟩ := id hMo2
        rw [hz1]
        refine lv_aload_n hx hb d_law_310 rfl (lv_at hl 1 rfl) ?_
        refine lv_aload_n hx hb d_law_311 rfl (lv_at hl 3 rfl) ?_
        refine lv_iload_n hx hb d_law_312 rfl (lv_at hl 0 rfl) ?_
        refine lv_iconst (v := 1) hx hb d_law_313 (by decide) ?_
        refine lv_iadd hx hb d_law_314 ?_
        rw [show nI (6 * k) + 1 = nI (6 * k + 1) from nI_add _ 1]
        refine va_sld hx hb hX hbl hbA hS (vp_in_nI (show 6 * k + 1 < L by omega) (by omega)) d_law_315 ?_
        rw [nI_clamp (show 6 * k + 1 < 2 ^ 31 by omega)]
        refine lv_aload_n hx hb d_law_316 rfl (lv_at hl 3 rfl) ?_
        refine lv_iload_n hx hb d_law_317 rfl (lv_at hl 0 rfl) ?_
        refine lv_iconst (v := 2) hx hb d_law_318 (by decide) ?_
        refine lv_iadd hx hb d_law_319 ?_
        rw [show nI (6 * k) + 2 = nI (6 * k + 2) from nI_add _ 2]
        refine va_sld hx hb hX hbl hbA hS (vp_in_nI (show 6 * k + 2 < L by omega) (by omega)) d_law_320 ?_
        rw [nI_clamp (show 6 * k + 2 < 2 ^ 31 by omega)]
        refine lv_aload_n hx hb d_law_321 rfl (lv_at hl 3 rfl) ?_
        refine lv_iload_n hx hb d_law_322 rfl (lv_at hl 0 rfl) ?_
        refine lv_iconst (v := 3) hx hb d_law_323 (by decide) ?_
        refine lv_iadd hx hb d_law_324 ?_
        rw [show nI (6 * k) + 3 = nI (6 * k + 3) from nI_add _ 3]
        refine va_sld hx hb hX hbl hbA hS (vp_in_nI (show 6 * k + 3 < L by omega) (by omega)) d_law_325 ?_
        rw [nI_clamp (show 6 * k + 3 < 2 ^ 31 by omega)]
        refine lv_aload_n hx hb d_law_326 rfl (lv_at hl 3 rfl) ?_
        refine lv_iload_n hx hb d_law_327 rfl (lv_at hl 0 rfl) ?_
        refine lv_iconst (v := 4) hx hb d_law_328 (by decide) ?_
        refine lv_iadd hx hb d_law_329 ?_
        rw [show nI (6 * k) + 4 = nI (6 * k + 4) from nI_add _ 4]
        refine va_sld hx hb hX hbl hbA hS (vp_in_nI (show 6 * k + 4 < L by omega) (by omega)) d_law_330 ?_
        rw [nI_clamp (show 6 * k + 4 < 2 ^ 31 by omega)]
        refine lv_aload_n hx hb d_law_331 rfl (lv_at hl 3 rfl) ?_
        refine lv_iload_n hx hb d_law_332 rfl (lv_at hl 0 rfl) ?_
        refine lv_iconst (v := 5) hx hb d_law_333 (by decide) ?_
        refine lv_iadd hx hb d_law_334 ?_
        rw [show nI (6 * k) + 5 = nI (6 * k + 5) from nI_add _ 5]
        refine va_sld hx hb hX hbl hbA hS (vp_in_nI (show 6 * k + 5 < L by omega) (by omega)) d_law_335 ?_
        rw [nI_clamp (show 6 * k + 5 < 2 ^ 31 by omega)]
        refine g_cl (B := fun A2 H => gP D classes b A2 H) (g_runV (As := [.int (xs (6 * k + 1)), .int (xs (6 * k + 2)), .int (xs (6 * k + 3)), .int (xs (6 * k + 4)), .int (xs (6 * k + 5))]) (rest := [.long ((sCall σ (xs (6 * k + 1)) (xs (6 * k + 2)) (xs (6 * k + 3)) (xs (6 * k + 4)) (xs (6 * k + 5))).2)]) ⟨hx, hb, hml, hown, hts⟩ (c_MM_call l hMo2 hw (xs (6 * k + 1)) (xs (6 * k + 2)) (xs (6 * k + 3)) (xs (6 * k + 4)) (xs (6 * k + 5))) st_MM_call k_540 ⟨rfl, rfl, by decide, by decide⟩ rfl (gI.preV hK hS hP hMM2.1 rfl _) rfl hl.1 rfl (Nat.le_of_ble_eq_true rfl) d_law_336 ⟨by show _ ≤ 600000; omega, by show _ ≤ 7302249; omega⟩) hS (fun r56 A54 H locs hp55 hP hS => ?_)
        replace hP : gP D classes b A54 H := hP
        obtain ⟨hz2, hMo3, gl3⟩ := hp55
        have hB3 := hB2.keep gl3
        rw [hz2]
        refine W.lcmp hx hb d_law_339 ?_
        refine lv_if_eq (tgt := 617) hx hb d_law_340 (by decide) (fun _ => ?_) (fun h9 => absurd (lgc _) h9)
        refine W.widen (k := 100 + 8 * (k + 1)) (n := 5000 + 1004 * (k + 1)) (by omega) (by omega) ?_
        exact hback _ _ _ _ _ hP hS hB3 hMo3 (hw.call _ _ _ _ _) hl
      by_cases c58 : (xs (6 * k)) &&& 15 = 6
      · refine lv_tableIn (off := 312) (tgt := 345) hx hb d_law_33 (by rw [c58]; decide) (by rw [c58]; decide) (by rw [c58]; rfl) (by decide) ?_
        refine lv_aload_n hx hb d_law_345 rfl (lv_at hl 2 rfl) ?_
        refine lv_aload_n hx hb d_law_346 rfl (lv_at hl 3 rfl) ?_
        refine lv_iload_n hx hb d_law_347 rfl (lv_at hl 0 rfl) ?_
        refine lv_iconst (v := 1) hx hb d_law_348 (by decide) ?_
        refine lv_iadd hx hb d_law_349 ?_
        rw [show nI (6 * k) + 1 = nI (6 * k + 1) from nI_add _ 1]
        refine va_sld hx hb hX hbl hbA hS (vp_in_nI (show 6 * k + 1 < L by omega) (by omega)) d_law_350 ?_
        rw [nI_clamp (show 6 * k + 1 < 2 ^ 31 by omega)]
        refine lv_aload_n hx hb d_law_351 rfl (lv_at hl 3 rfl) ?_
        refine lv_iload_n hx hb d_law_352 rfl (lv_at hl 0 rfl) ?_
        refine lv_iconst (v := 2) hx hb d_law_353 (by decide) ?_
        refine lv_iadd hx hb d_law_354 ?_
        rw [show nI (6 * k) + 2 = nI (6 * k + 2) from nI_add _ 2]
        refine va_sld hx hb hX hbl hbA hS (vp_in_nI (show 6 * k + 2 < L by omega) (by omega)) d_law_355 ?_
        rw [nI_clamp (show 6 * k + 2 < 2 ^ 31 by omega)]
        refine lv_aload_n hx hb d_law_356 rfl (lv_at hl 3 rfl) ?_
        refine lv_iload_n hx hb d_law_357 rfl (lv_at hl 0 rfl) ?_
        refine lv_iconst (v := 3) hx hb d_law_358 (by decide) ?_
        refine lv_iadd hx hb d_law_359 ?_
        rw [show nI (6 * k) + 3 = nI (6 * k + 3) from nI_add _ 3]
        refine va_sld hx hb hX hbl hbA hS (vp_in_nI (show 6 * k + 3 < L by omega) (by omega)) d_law_360 ?_
        rw [nI_clamp (show 6 * k + 3 < 2 ^ 31 by omega)]
        refine lv_aload_n hx hb d_law_361 rfl (lv_at hl 3 rfl) ?_
        refine lv_iload_n hx hb d_law_362 rfl (lv_at hl 0 rfl) ?_
        refine lv_iconst (v := 4) hx hb d_law_363 (by decide) ?_
        refine lv_iadd hx hb d_law_364 ?_
        rw [show nI (6 * k) + 4 = nI (6 * k + 4) from nI_add _ 4]
        refine va_sld hx hb hX hbl hbA hS (vp_in_nI (show 6 * k + 4 < L by omega) (by omega)) d_law_365 ?_
        rw [nI_clamp (show 6 * k + 4 < 2 ^ 31 by omega)]
        refine g_ci (B := fun A2 H => gP D classes b A2 H) (g_runV (As := [.int (xs (6 * k + 1)), .int (xs (6 * k + 2)), .int (xs (6 * k + 3)), .int (xs (6 * k + 4))]) (rest := []) ⟨hx, hb, hml, hown, hts⟩ (c_MB_verify l hB hw (xs (6 * k + 1)) (xs (6 * k + 2)) (xs (6 * k + 3)) (xs (6 * k + 4))) st_MB_verify k_357 ⟨rfl, rfl, by decide, by decide⟩ rfl (gI.preV hK hS hP fB rfl _) rfl hl.1 rfl (Nat.le_of_ble_eq_true rfl) d_law_366 ⟨by show _ ≤ 600000; omega, by show _ ≤ 7302249; omega⟩) hS (fun r61 A59 H locs hp60 hP hS => ?_)
        replace hP : gP D classes b A59 H := hP
        obtain ⟨hz1, hB2, go2⟩ := hp60
        have hMo2 := hMo.keep go2
        obtain ⟨_, _, _, hMM2, -⟩ := id hMo2
        rw [hz1]
        refine lv_aload_n hx hb d_law_369 rfl (lv_at hl 1 rfl) ?_
        refine lv_aload_n hx hb d_law_370 rfl (lv_at hl 3 rfl) ?_
        refine lv_iload_n hx hb d_law_371 rfl (lv_at hl 0 rfl) ?_
        refine lv_iconst (v := 1) hx hb d_law_372 (by decide) ?_
        refine lv_iadd hx hb d_law_373 ?_
        rw [show nI (6 * k) + 1 = nI (6 * k + 1) from nI_add _ 1]
        refine va_sld hx hb hX hbl hbA hS (vp_in_nI (show 6 * k + 1 < L by omega) (by omega)) d_law_374 ?_
        rw [nI_clamp (show 6 * k + 1 < 2 ^ 31 by omega)]
        refine lv_aload_n hx hb d_law_375 rfl (lv_at hl 3 rfl) ?_
        refine lv_iload_n hx hb d_law_376 rfl (lv_at hl 0 rfl) ?_
        refine lv_iconst (v := 2) hx hb d_law_377 (by decide) ?_
        refine lv_iadd hx hb d_law_378 ?_
        rw [show nI (6 * k) + 2 = nI (6 * k + 2) from nI_add _ 2]
        refine va_sld hx hb hX hbl hbA hS (vp_in_nI (show 6 * k + 2 < L by omega) (by omega)) d_law_379 ?_
        rw [nI_clamp (show 6 * k + 2 < 2 ^ 31 by omega)]
        refine lv_aload_n hx hb d_law_380 rfl (lv_at hl 3 rfl) ?_
        refine lv_iload_n hx hb d_law_381 rfl (lv_at hl 0 rfl) ?_
        refine lv_iconst (v := 3) hx hb d_law_382 (by decide) ?_
        refine lv_iadd hx hb d_law_383 ?_
        rw [show nI (6 * k) + 3 = nI (6 * k + 3) from nI_add _ 3]
        refine va_sld hx hb hX hbl hbA hS (vp_in_nI (show 6 * k + 3 < L by omega) (by omega)) d_law_384 ?_
        rw [nI_clamp (show 6 * k + 3 < 2 ^ 31 by omega)]
        refine lv_aload_n hx hb d_law_385 rfl (lv_at hl 3 rfl) ?_
        refine lv_iload_n hx hb d_law_386 rfl (lv_at hl 0 rfl) ?_
        refine lv_iconst (v := 4) hx hb d_law_387 (by decide) ?_
        refine lv_iadd hx hb d_law_388 ?_
        rw [show nI (6 * k) + 4 = nI (6 * k + 4) from nI_add _ 4]
        refine va_sld hx hb hX hbl hbA hS (vp_in_nI (show 6 * k + 4 < L by omega) (by omega)) d_law_389 ?_
        rw [nI_clamp (show 6 * k + 4 < 2 ^ 31 by omega)]
        refine g_ci (B := fun A2 H => gP D classes b A2 H) (g_runV (As := [.int (xs (6 * k + 1)), .int (xs (6 * k + 2)), .int (xs (6 * k + 3)), .int (xs (6 * k + 4))]) (rest := [.int ((sVerify σ (xs (6 * k + 1)) (xs (6 * k + 2)) (xs (6 * k + 3)) (xs (6 * k + 4))).2)]) ⟨hx, hb, hml, hown, hts⟩ (c_MM_verify l hMo2 hw (xs (6 * k + 1)) (xs (6 * k + 2)) (xs (6 * k + 3)) (xs (6 * k + 4))) st_MM_verify k_571 ⟨rfl, rfl, by decide, by decide⟩ rfl (gI.preV hK hS hP hMM2.1 rfl _) rfl hl.1 rfl (Nat.le_of_ble_eq_true rfl) d_law_390 ⟨by show _ ≤ 600000; omega, by show _ ≤ 7302249; omega⟩) hS (fun r64 A62 H locs hp63 hP hS => ?_)
        replace hP : gP D classes b A62 H := hP
        obtain ⟨hz2, hMo3, gl3⟩ := hp63
        have hB3 := hB2.keep gl3
        rw [hz2]
        refine lv_icmp_eq (tgt := 617) hx hb d_law_393 (by decide) (fun _ => ?_) (fun h9 => absurd rfl h9)
        refine W.widen (k := 100 + 8 * (k + 1)) (n := 5000 + 1004 * (k + 1)) (by omega) (by omega) ?_
        exact hback _ _ _ _ _ hP hS hB3 hMo3 (hw.verify _ _ _ _) hl
      by_cases c66 : (xs (6 * k)) &&& 15 = 7
      · refine lv_tableIn (off := 365) (tgt := 398) hx hb d_law_33 (by rw [c66]; decide) (by rw [c66]; decide) (by rw [c66]; rfl) (by decide) ?_
        refine lv_aload_n hx hb d_law_398 rfl (lv_at hl 2 rfl) ?_
        refine lv_aload_n hx hb d_law_399 rfl (lv_at hl 3 rfl) ?_
        refine lv_iload_n hx hb d_law_400 rfl (lv_at hl 0 rfl) ?_
        refine lv_iconst (v := 1) hx hb d_law_401 (by decide) ?_
        refine lv_iadd hx hb d_law_402 ?_
        rw [show nI (6 * k) + 1 = nI (6 * k + 1) from nI_add _ 1]
        refine va_sld hx hb hX hbl hbA hS (vp_in_nI (show 6 * k + 1 < L by omega) (by omega)) d_law_403 ?_
        rw [nI_clamp (show 6 * k + 1 < 2 ^ 31 by omega)]
        refine lv_aload_n hx hb d_law_404 rfl (lv_at hl 3 rfl) ?_
        refine lv_iload_n hx hb d_law_405 rfl (lv_at hl 0 rfl) ?_
        refine lv_iconst (v := 2) hx hb d_law_406 (by decide) ?_
        refine lv_iadd hx hb d_law_407 ?_
        rw [show nI (6 * k) + 2 = nI (6 * k + 2) from nI_add _ 2]
        refine va_sld hx hb hX hbl hbA hS (vp_in_nI (show 6 * k + 2 < L by omega) (by omega)) d_law_408 ?_
        rw [nI_clamp (show 6 * k + 2 < 2 ^ 31 by omega)]
        refine g_ci (B := fun A2 H => gP D classes b A2 H) (g_runV (As := [.int (xs (6 * k + 1)), .int (xs (6 * k + 2))]) (rest := []) ⟨hx, hb, hml, hown, hts⟩ (c_MB_inOrder l hB hw (xs (6 * k + 1)) (xs (6 * k + 2))) st_MB_inOrder k_377 ⟨rfl, rfl, by decide, by decide⟩ rfl (gI.preV hK hS hP fB rfl _) rfl hl.1 rfl (Nat.le_of_ble_eq_true rfl) d_law_409 ⟨by show _ ≤ 600000; omega, by show _ ≤ 7302249; omega⟩) hS (fun r69 A67 H locs hp68 hP hS => ?_)
        replace hP : gP D classes b A67 H := hP
        obtain ⟨hz1, hB2, go2⟩ := hp68
        have hMo2 := hMo.keep go2
        obtain ⟨_, _, _, hMM2, -⟩ := id hMo2
        rw [hz1]
        refine lv_aload_n hx hb d_law_412 rfl (lv_at hl 1 rfl) ?_
        refine lv_aload_n hx hb d_law_413 rfl (lv_at hl 3 rfl) ?_
        refine lv_iload_n hx hb d_law_414 rfl (lv_at hl 0 rfl) ?_
        refine lv_iconst (v := 1) hx hb d_law_415 (by decide) ?_
        refine lv_iadd hx hb d_law_416 ?_
        rw [show nI (6 * k) + 1 = nI (6 * k + 1) from nI_add _ 1]
        refine va_sld hx hb hX hbl hbA hS (vp_in_nI (show 6 * k + 1 < L by omega) (by omega)) d_law_417 ?_
        rw [nI_clamp (show 6 * k + 1 < 2 ^ 31 by omega)]
        refine lv_aload_n hx hb d_law_418 rfl (lv_at hl 3 rfl) ?_
        refine lv_iload_n hx hb d_law_419 rfl (lv_at hl 0 rfl) ?_
        refine lv_iconst (v := 2) hx hb d_law_420 (by decide) ?_
        refine lv_iadd hx hb d_law_421 ?_
        rw [show nI (6 * k) + 2 = nI (6 * k + 2) from nI_add _ 2]
        refine va_sld hx hb hX hbl hbA hS (vp_in_nI (show 6 * k + 2 < L by omega) (by omega)) d_law_422 ?_
        rw [nI_clamp (show 6 * k + 2 < 2 ^ 31 by omega)]
        refine g_ci (B := fun A2 H => gP D classes b A2 H) (g_runV (As := [.int (xs (6 * k + 1)), .int (xs (6 * k + 2))]) (rest := [.int ((sInOrder σ (xs (6 * k + 1)) (xs (6 * k + 2))).2)]) ⟨hx, hb, hml, hown, hts⟩ (c_MM_inOrder l hMo2 hw (xs (6 * k + 1)) (xs (6 * k + 2))) st_MM_inOrder k_579 ⟨rfl, rfl, by decide, by decide⟩ rfl (gI.preV hK hS hP hMM2.1 rfl _) rfl hl.1 rfl (Nat.le_of_ble_eq_true rfl) d_law_423 ⟨by show _ ≤ 600000; omega, by show _ ≤ 7302249; omega⟩) hS (fun r72 A70 H locs hp71 hP hS => ?_)
        replace hP : gP D classes b A70 H := hP
        obtain ⟨hz2, hMo3, gl3⟩ := hp71
        have hB3 := hB2.keep gl3
        rw [hz2]
        refine lv_icmp_eq (tgt := 617) hx hb d_law_426 (by decide) (fun _ => ?_) (fun h9 => absurd rfl h9)
        refine W.widen (k := 100 + 8 * (k + 1)) (n := 5000 + 1004 * (k + 1)) (by omega) (by omega) ?_
        exact hback _ _ _ _ _ hP hS hB3 hMo3 (hw.inOrder _ _) hl
      by_cases c74 : (xs (6 * k)) &&& 15 = 8
      · refine lv_tableIn (off := 398) (tgt := 431) hx hb d_law_33 (by rw [c74]; decide) (by rw [c74]; decide) (by rw [c74]; rfl) (by decide) ?_
        refine lv_aload_n hx hb d_law_431 rfl (lv_at hl 2 rfl) ?_
        refine g_ci (B := fun A2 H => gP D classes b A2 H) (g_runV (As := []) (rest := []) ⟨hx, hb, hml, hown, hts⟩ (c_MB_rewind l hB hw) st_MB_rewind k_385 ⟨rfl, rfl, by decide, by decide⟩ rfl (gI.preV hK hS hP fB rfl _) rfl hl.1 rfl (Nat.le_of_ble_eq_true rfl) d_law_432 ⟨by show _ ≤ 600000; omega, by show _ ≤ 7302249; omega⟩) hS (fun r77 A75 H locs hp76 hP hS => ?_)
        replace hP : gP D classes b A75 H := hP
        obtain ⟨hz1, hB2, go2⟩ := hp76
        have hMo2 := hMo.keep go2
        obtain ⟨_, _, _, hMM2, -⟩ := id hMo2
        rw [hz1]
        refine lv_aload_n hx hb d_law_435 rfl (lv_at hl 1 rfl) ?_
        refine g_ci (B := fun A2 H => gP D classes b A2 H) (g_runV (As := []) (rest := [.int ((sRewind σ).2)]) ⟨hx, hb, hml, hown, hts⟩ (c_MM_rewind l hMo2 hw) st_MM_rewind k_583 ⟨rfl, rfl, by decide, by decide⟩ rfl (gI.preV hK hS hP hMM2.1 rfl _) rfl hl.1 rfl (Nat.le_of_ble_eq_true rfl) d_law_436 ⟨by show _ ≤ 600000; omega, by show _ ≤ 7302249; omega⟩) hS (fun r80 A78 H locs hp79 hP hS => ?_)
        replace hP : gP D classes b A78 H := hP
        obtain ⟨hz2, hMo3, gl3⟩ := hp79
        have hB3 := hB2.keep gl3
        rw [hz2]
        refine lv_icmp_eq (tgt := 617) hx hb d_law_439 (by decide) (fun _ => ?_) (fun h9 => absurd rfl h9)
        refine W.widen (k := 100 + 8 * (k + 1)) (n := 5000 + 1004 * (k + 1)) (by omega) (by omega) ?_
        exact hback _ _ _ _ _ hP hS hB3 hMo3 (hw.rewind) hl
      by_cases c82 : (xs (6 * k)) &&& 15 = 9
      · refine lv_tableIn (off := 411) (tgt := 444) hx hb d_law_33 (by rw [c82]; decide) (by rw [c82]; decide) (by rw [c82]; rfl) (by decide) ?_
        refine lv_aload_n hx hb d_law_444 rfl (lv_at hl 2 rfl) ?_
        refine lv_aload_n hx hb d_law_445 rfl (lv_at hl 3 rfl) ?_
        refine lv_iload_n hx hb d_law_446 rfl (lv_at hl 0 rfl) ?_
        refine lv_iconst (v := 1) hx hb d_law_447 (by decide) ?_
        refine lv_iadd hx hb d_law_448 ?_
        rw [show nI (6 * k) + 1 = nI (6 * k + 1) from nI_add _ 1]
        refine va_sld hx hb hX hbl hbA hS (vp_in_nI (show 6 * k + 1 < L by omega) (by omega)) d_law_449 ?_
        rw [nI_clamp (show 6 * k + 1 < 2 ^ 31 by omega)]
        refine g_ri (g_runV (As := [.int (xs (6 * k + 1))]) (rest := []) ⟨hx, hb, hml, hown, hts⟩ (c_MB_open l hB hw (xs (6 * k + 1))) st_MB_open k_389 ⟨rfl, rfl, by decide, by decide⟩ rfl (gI.preV hK hS hP fB rfl _) rfl hl.1 rfl (Nat.le_of_ble_eq_true rfl) d_law_450 ⟨by show _ ≤ 600000; omega, by show _ ≤ 7302249; omega⟩) (fun r83 hr83 => ?_)
        subst hr83
        refine lv_aload_n hx hb d_law_453 rfl (lv_at hl 1 rfl) ?_
        refine lv_aload_n hx hb d_law_454 rfl (lv_at hl 3 rfl) ?_
        refine lv_iload_n hx hb d_law_455 rfl (lv_at hl 0 rfl) ?_
        refine lv_iconst (v := 1) hx hb d_law_456 (by decide) ?_
        refine lv_iadd hx hb d_law_457 ?_
        rw [show nI (6 * k) + 1 = nI (6 * k + 1) from nI_add _ 1]
        refine va_sld hx hb hX hbl hbA hS (vp_in_nI (show 6 * k + 1 < L by omega) (by omega)) d_law_458 ?_
        rw [nI_clamp (show 6 * k + 1 < 2 ^ 31 by omega)]
        refine g_ri (g_runV (As := [.int (xs (6 * k + 1))]) (rest := [.int (sOpen σ (xs (6 * k + 1)))]) ⟨hx, hb, hml, hown, hts⟩ (c_MM_open l hMo hw (xs (6 * k + 1))) st_MM_open k_587 ⟨rfl, rfl, by decide, by decide⟩ rfl (gI.preV hK hS hP hMM.1 rfl _) rfl hl.1 rfl (Nat.le_of_ble_eq_true rfl) d_law_459 ⟨by show _ ≤ 600000; omega, by show _ ≤ 7302249; omega⟩) (fun r84 hr84 => ?_)
        subst hr84
        refine lv_icmp_eq (tgt := 617) hx hb d_law_462 (by decide) (fun _ => ?_) (fun h9 => absurd rfl h9)
        refine W.widen (k := 100 + 8 * (k + 1)) (n := 5000 + 1004 * (k + 1)) (by omega) (by omega) ?_
        exact hback _ _ _ _ _ hP hS hB hMo hw hl
      by_cases c86 : (xs (6 * k)) &&& 15 = 10
      · refine lv_tableIn (off := 434) (tgt := 467) hx hb d_law_33 (by rw [c86]; decide) (by rw [c86]; decide) (by rw [c86]; rfl) (by decide) ?_
        refine lv_aload_n hx hb d_law_467 rfl (lv_at hl 2 rfl) ?_
        refine g_ri (g_runV (As := []) (rest := []) ⟨hx, hb, hml, hown, hts⟩ (c_MB_unused l hB hw) st_MB_unused k_393 ⟨rfl, rfl, by decide, by decide⟩ rfl (gI.preV hK hS hP fB rfl _) rfl hl.1 rfl (Nat.le_of_ble_eq_true rfl) d_law_468 ⟨by show _ ≤ 600000; omega, by show _ ≤ 7302249; omega⟩) (fun r87 hr87 => ?_)
        subst hr87
        refine lv_aload_n hx hb d_law_471 rfl (lv_at hl 1 rfl) ?_
        refine g_ri (g_runV (As := []) (rest := [.int (sUnused σ)]) ⟨hx, hb, hml, hown, hts⟩ (c_MM_unused l hMo hw) st_MM_unused k_591 ⟨rfl, rfl, by decide, by decide⟩ rfl (gI.preV hK hS hP hMM.1 rfl _) rfl hl.1 rfl (Nat.le_of_ble_eq_true rfl) d_law_472 ⟨by show _ ≤ 600000; omega, by show _ ≤ 7302249; omega⟩) (fun r88 hr88 => ?_)
        subst hr88
        refine lv_icmp_eq (tgt := 617) hx hb d_law_475 (by decide) (fun _ => ?_) (fun h9 => absurd rfl h9)
        refine W.widen (k := 100 + 8 * (k + 1)) (n := 5000 + 1004 * (k + 1)) (by omega) (by omega) ?_
        exact hback _ _ _ _ _ hP hS hB hMo hw hl
      by_cases c90 : (xs (6 * k)) &&& 15 = 11
      · refine lv_tableIn (off := 447) (tgt := 480) hx hb d_law_33 (by rw [c90]; decide) (by rw [c90]; decide) (by rw [c90]; rfl) (by decide) ?_
        refine lv_aload_n hx hb d_law_480 rfl (lv_at hl 2 rfl) ?_
        refine lv_aload_n hx hb d_law_481 rfl (lv_at hl 3 rfl) ?_
        refine lv_iload_n hx hb d_law_482 rfl (lv_at hl 0 rfl) ?_
        refine lv_iconst (v := 1) hx hb d_law_483 (by decide) ?_
        refine lv_iadd hx hb d_law_484 ?_
        rw [show nI (6 * k) + 1 = nI (6 * k + 1) from nI_add _ 1]
        refine va_sld hx hb hX hbl hbA hS (vp_in_nI (show 6 * k + 1 < L by omega) (by omega)) d_law_485 ?_
        rw [nI_clamp (show 6 * k + 1 < 2 ^ 31 by omega)]
        refine g_ci (B := fun A2 H => gP D classes b A2 H) (g_runV (As := [.int (xs (6 * k + 1))]) (rest := []) ⟨hx, hb, hml, hown, hts⟩ (c_MB_reset l hB hw (xs (6 * k + 1))) st_MB_reset k_397 ⟨rfl, rfl, by decide, by decide⟩ rfl (gI.preV hK hS hP fB rfl _) rfl hl.1 rfl (Nat.le_of_ble_eq_true rfl) d_law_486 ⟨by show _ ≤ 600000; omega, by show _ ≤ 7302249; omega⟩) hS (fun r93 A91 H locs hp92 hP hS => ?_)
        replace hP : gP D classes b A91 H := hP
        obtain ⟨hz1, hB2, go2⟩ := hp92
        have hMo2 := hMo.keep go2
        obtain ⟨_, _, _, hMM2, -⟩ := id hMo2
        rw [hz1]
        refine lv_aload_n hx hb d_law_489 rfl (lv_at hl 1 rfl) ?_
        refine lv_aload_n hx hb d_law_490 rfl (lv_at hl 3 rfl) ?_
        refine lv_iload_n hx hb d_law_491 rfl (lv_at hl 0 rfl) ?_
        refine lv_iconst (v := 1) hx hb d_law_492 (by decide) ?_
        refine lv_iadd hx hb d_law_493 ?_
        rw [show nI (6 * k) + 1 = nI (6 * k + 1) from nI_add _ 1]
        refine va_sld hx hb hX hbl hbA hS (vp_in_nI (show 6 * k + 1 < L by omega) (by omega)) d_law_494 ?_
        rw [nI_clamp (show 6 * k + 1 < 2 ^ 31 by omega)]
        refine g_ci (B := fun A2 H => gP D classes b A2 H) (g_runV (As := [.int (xs (6 * k + 1))]) (rest := [.int ((sReset σ (xs (6 * k + 1))).2)]) ⟨hx, hb, hml, hown, hts⟩ (c_MM_reset l hMo2 hw (xs (6 * k + 1))) st_MM_reset k_595 ⟨rfl, rfl, by decide, by decide⟩ rfl (gI.preV hK hS hP hMM2.1 rfl _) rfl hl.1 rfl (Nat.le_of_ble_eq_true rfl) d_law_495 ⟨by show _ ≤ 600000; omega, by show _ ≤ 7302249; omega⟩) hS (fun r96 A94 H locs hp95 hP hS => ?_)
        replace hP : gP D classes b A94 H := hP
        obtain ⟨hz2, hMo3, gl3⟩ := hp95
        have hB3 := hB2.keep gl3
        rw [hz2]
        refine lv_icmp_eq (tgt := 617) hx hb d_law_498 (by decide) (fun _ => ?_) (fun h9 => absurd rfl h9)
        refine W.widen (k := 100 + 8 * (k + 1)) (n := 5000 + 1004 * (k + 1)) (by omega) (by omega) ?_
        exact hback _ _ _ _ _ hP hS hB3 hMo3 (hw.reset _) hl
      by_cases c98 : (xs (6 * k)) &&& 15 = 12
      · refine lv_tableIn (off := 470) (tgt := 503) hx hb d_law_33 (by rw [c98]; decide) (by rw [c98]; decide) (by rw [c98]; rfl) (by decide) ?_
        refine lv_aload_n hx hb d_law_503 rfl (lv_at hl 2 rfl) ?_
        refine lv_aload_n hx hb d_law_504 rfl (lv_at hl 3 rfl) ?_
        refine lv_iload_n hx hb d_law_505 rfl (lv_at hl 0 rfl) ?_
        refine lv_iconst (v := 1) hx hb d_law_506 (by decide) ?_
        refine lv_iadd hx hb d_law_507 ?_
        rw [show nI (6 * k) + 1 = nI (6 * k + 1) from nI_add _ 1]
        refine va_sld hx hb hX hbl hbA hS (vp_in_nI (show 6 * k + 1 < L by omega) (by omega)) d_law_508 ?_
        rw [nI_clamp (show 6 * k + 1 < 2 ^ 31 by omega)]
        refine lv_aload_n hx hb d_law_509 rfl (lv_at hl 3 rfl) ?_
        refine lv_iload_n hx hb d_law_510 rfl (lv_at hl 0 rfl) ?_
        refine lv_iconst (v := 2) hx hb d_law_511 (by decide) ?_
        refine lv_iadd hx hb d_law_512 ?_
        rw [show nI (6 * k) + 2 = nI (6 * k + 2) from nI_add _ 2]
        refine va_sld hx hb hX hbl hbA hS (vp_in_nI (show 6 * k + 2 < L by omega) (by omega)) d_law_513 ?_
        rw [nI_clamp (show 6 * k + 2 < 2 ^ 31 by omega)]
        refine g_rl (g_runV (As := [.int (xs (6 * k + 1)), .int (xs (6 * k + 2))]) (rest := []) ⟨hx, hb, hml, hown, hts⟩ (c_MB_noted l hB hw (xs (6 * k + 1)) (xs (6 * k + 2))) st_MB_noted k_409 ⟨rfl, rfl, by decide, by decide⟩ rfl (gI.preV hK hS hP fB rfl _) rfl hl.1 rfl (Nat.le_of_ble_eq_true rfl) d_law_514 ⟨by show _ ≤ 600000; omega, by show _ ≤ 7302249; omega⟩) (fun r99 hr99 => ?_)
        subst hr99
        refine lv_aload_n hx hb d_law_517 rfl (lv_at hl 1 rfl) ?_
        refine lv_aload_n hx hb d_law_518 rfl (lv_at hl 3 rfl) ?_
        refine lv_iload_n hx hb d_law_519 rfl (lv_at hl 0 rfl) ?_
        refine lv_iconst (v := 1) hx hb d_law_520 (by decide) ?_
        refine lv_iadd hx hb d_law_521 ?_
        rw [show nI (6 * k) + 1 = nI (6 * k + 1) from nI_add _ 1]
        refine va_sld hx hb hX hbl hbA hS (vp_in_nI (show 6 * k + 1 < L by omega) (by omega)) d_law_522 ?_
        rw [nI_clamp (show 6 * k + 1 < 2 ^ 31 by omega)]
        refine lv_aload_n hx hb d_law_523 rfl (lv_at hl 3 rfl) ?_
        refine lv_iload_n hx hb d_law_524 rfl (lv_at hl 0 rfl) ?_
        refine lv_iconst (v := 2) hx hb d_law_525 (by decide) ?_
        refine lv_iadd hx hb d_law_526 ?_
        rw [show nI (6 * k) + 2 = nI (6 * k + 2) from nI_add _ 2]
        refine va_sld hx hb hX hbl hbA hS (vp_in_nI (show 6 * k + 2 < L by omega) (by omega)) d_law_527 ?_
        rw [nI_clamp (show 6 * k + 2 < 2 ^ 31 by omega)]
        refine g_rl (g_runV (As := [.int (xs (6 * k + 1)), .int (xs (6 * k + 2))]) (rest := [.long (sNoted σ (xs (6 * k + 1)) (xs (6 * k + 2)))]) ⟨hx, hb, hml, hown, hts⟩ (c_MM_noted l hMo hw (xs (6 * k + 1)) (xs (6 * k + 2))) st_MM_noted k_599 ⟨rfl, rfl, by decide, by decide⟩ rfl (gI.preV hK hS hP hMM.1 rfl _) rfl hl.1 rfl (Nat.le_of_ble_eq_true rfl) d_law_528 ⟨by show _ ≤ 600000; omega, by show _ ≤ 7302249; omega⟩) (fun r100 hr100 => ?_)
        subst hr100
        refine W.lcmp hx hb d_law_531 ?_
        refine lv_if_eq (tgt := 617) hx hb d_law_532 (by decide) (fun _ => ?_) (fun h9 => absurd (lgc _) h9)
        refine W.widen (k := 100 + 8 * (k + 1)) (n := 5000 + 1004 * (k + 1)) (by omega) (by omega) ?_
        exact hback _ _ _ _ _ hP hS hB hMo hw hl
      by_cases c102 : (xs (6 * k)) &&& 15 = 13
      · refine lv_tableIn (off := 504) (tgt := 537) hx hb d_law_33 (by rw [c102]; decide) (by rw [c102]; decide) (by rw [c102]; rfl) (by decide) ?_
        refine lv_aload_n hx hb d_law_537 rfl (lv_at hl 2 rfl) ?_
        refine lv_aload_n hx hb d_law_538 rfl (lv_at hl 3 rfl) ?_
        refine lv_iload_n hx hb d_law_539 rfl (lv_at hl 0 rfl) ?_
        refine lv_iconst (v := 1) hx hb d_law_540 (by decide) ?_
        refine lv_iadd hx hb d_law_541 ?_
        rw [show nI (6 * k) + 1 = nI (6 * k + 1) from nI_add _ 1]
        refine va_sld hx hb hX hbl hbA hS (vp_in_nI (show 6 * k + 1 < L by omega) (by omega)) d_law_542 ?_
        rw [nI_clamp (show 6 * k + 1 < 2 ^ 31 by omega)]
        refine g_rl (g_runV (As := [.int (xs (6 * k + 1))]) (rest := []) ⟨hx, hb, hml, hown, hts⟩ (c_MB_answer l hB hw (xs (6 * k + 1))) st_MB_answer k_417 ⟨rfl, rfl, by decide, by decide⟩ rfl (gI.preV hK hS hP fB rfl _) rfl hl.1 rfl (Nat.le_of_ble_eq_true rfl) d_law_543 ⟨by show _ ≤ 600000; omega, by show _ ≤ 7302249; omega⟩) (fun r103 hr103 => ?_)
        subst hr103
        refine lv_aload_n hx hb d_law_546 rfl (lv_at hl 1 rfl) ?_
        refine lv_aload_n hx hb d_law_547 rfl (lv_at hl 3 rfl) ?_
        refine lv_iload_n hx hb d_law_548 rfl (lv_at hl 0 rfl) ?_
        refine lv_iconst (v := 1) hx hb d_law_549 (by decide) ?_
        refine lv_iadd hx hb d_law_550 ?_
        rw [show nI (6 * k) + 1 = nI (6 * k + 1) from nI_add _ 1]
        refine va_sld hx hb hX hbl hbA hS (vp_in_nI (show 6 * k + 1 < L by omega) (by omega)) d_law_551 ?_
        rw [nI_clamp (show 6 * k + 1 < 2 ^ 31 by omega)]
        refine g_rl (g_runV (As := [.int (xs (6 * k + 1))]) (rest := [.long (sAnswer σ (xs (6 * k + 1)))]) ⟨hx, hb, hml, hown, hts⟩ (c_MM_answer l hMo hw (xs (6 * k + 1))) st_MM_answer k_603 ⟨rfl, rfl, by decide, by decide⟩ rfl (gI.preV hK hS hP hMM.1 rfl _) rfl hl.1 rfl (Nat.le_of_ble_eq_true rfl) d_law_552 ⟨by show _ ≤ 600000; omega, by show _ ≤ 7302249; omega⟩) (fun r104 hr104 => ?_)
        subst hr104
        refine W.lcmp hx hb d_law_555 ?_
        refine lv_if_eq (tgt := 617) hx hb d_law_556 (by decide) (fun _ => ?_) (fun h9 => absurd (lgc _) h9)
        refine W.widen (k := 100 + 8 * (k + 1)) (n := 5000 + 1004 * (k + 1)) (by omega) (by omega) ?_
        exact hback _ _ _ _ _ hP hS hB hMo hw hl
      by_cases c106 : (xs (6 * k)) &&& 15 = 14
      · refine lv_tableIn (off := 528) (tgt := 561) hx hb d_law_33 (by rw [c106]; decide) (by rw [c106]; decide) (by rw [c106]; rfl) (by decide) ?_
        refine lv_aload_n hx hb d_law_561 rfl (lv_at hl 2 rfl) ?_
        refine lv_aload_n hx hb d_law_562 rfl (lv_at hl 3 rfl) ?_
        refine lv_iload_n hx hb d_law_563 rfl (lv_at hl 0 rfl) ?_
        refine lv_iconst (v := 1) hx hb d_law_564 (by decide) ?_
        refine lv_iadd hx hb d_law_565 ?_
        rw [show nI (6 * k) + 1 = nI (6 * k + 1) from nI_add _ 1]
        refine va_sld hx hb hX hbl hbA hS (vp_in_nI (show 6 * k + 1 < L by omega) (by omega)) d_law_566 ?_
        rw [nI_clamp (show 6 * k + 1 < 2 ^ 31 by omega)]
        refine lv_aload_n hx hb d_law_567 rfl (lv_at hl 3 rfl) ?_
        refine lv_iload_n hx hb d_law_568 rfl (lv_at hl 0 rfl) ?_
        refine lv_iconst (v := 2) hx hb d_law_569 (by decide) ?_
        refine lv_iadd hx hb d_law_570 ?_
        rw [show nI (6 * k) + 2 = nI (6 * k + 2) from nI_add _ 2]
        refine va_sld hx hb hX hbl hbA hS (vp_in_nI (show 6 * k + 2 < L by omega) (by omega)) d_law_571 ?_
        rw [nI_clamp (show 6 * k + 2 < 2 ^ 31 by omega)]
        refine g_ri (g_runV (As := [.int (xs (6 * k + 1)), .int (xs (6 * k + 2))]) (rest := []) ⟨hx, hb, hml, hown, hts⟩ (c_MB_about l hB hw (xs (6 * k + 1)) (xs (6 * k + 2))) st_MB_about k_421 ⟨rfl, rfl, by decide, by decide⟩ rfl (gI.preV hK hS hP fB rfl _) rfl hl.1 rfl (Nat.le_of_ble_eq_true rfl) d_law_572 ⟨by show _ ≤ 600000; omega, by show _ ≤ 7302249; omega⟩) (fun r107 hr107 => ?_)
        subst hr107
        refine lv_aload_n hx hb d_law_575 rfl (lv_at hl 1 rfl) ?_
        refine lv_aload_n hx hb d_law_576 rfl (lv_at hl 3 rfl) ?_
        refine lv_iload_n hx hb d_law_577 rfl (lv_at hl 0 rfl) ?_
        refine lv_iconst (v := 1) hx hb d_law_578 (by decide) ?_
        refine lv_iadd hx hb d_law_579 ?_
        rw [show nI (6 * k) + 1 = nI (6 * k + 1) from nI_add _ 1]
        refine va_sld hx hb hX hbl hbA hS (vp_in_nI (show 6 * k + 1 < L by omega) (by omega)) d_law_580 ?_
        rw [nI_clamp (show 6 * k + 1 < 2 ^ 31 by omega)]
        refine lv_aload_n hx hb d_law_581 rfl (lv_at hl 3 rfl) ?_
        refine lv_iload_n hx hb d_law_582 rfl (lv_at hl 0 rfl) ?_
        refine lv_iconst (v := 2) hx hb d_law_583 (by decide) ?_
        refine lv_iadd hx hb d_law_584 ?_
        rw [show nI (6 * k) + 2 = nI (6 * k + 2) from nI_add _ 2]
        refine va_sld hx hb hX hbl hbA hS (vp_in_nI (show 6 * k + 2 < L by omega) (by omega)) d_law_585 ?_
        rw [nI_clamp (show 6 * k + 2 < 2 ^ 31 by omega)]
        refine g_ri (g_runV (As := [.int (xs (6 * k + 1)), .int (xs (6 * k + 2))]) (rest := [.int (sAbout σ (xs (6 * k + 1)) (xs (6 * k + 2)))]) ⟨hx, hb, hml, hown, hts⟩ (c_MM_about l hMo hw (xs (6 * k + 1)) (xs (6 * k + 2))) st_MM_about k_607 ⟨rfl, rfl, by decide, by decide⟩ rfl (gI.preV hK hS hP hMM.1 rfl _) rfl hl.1 rfl (Nat.le_of_ble_eq_true rfl) d_law_586 ⟨by show _ ≤ 600000; omega, by show _ ≤ 7302249; omega⟩) (fun r108 hr108 => ?_)
        subst hr108
        refine lv_icmp_eq (tgt := 617) hx hb d_law_589 (by decide) (fun _ => ?_) (fun h9 => absurd rfl h9)
        refine W.widen (k := 100 + 8 * (k + 1)) (n := 5000 + 1004 * (k + 1)) (by omega) (by omega) ?_
        exact hback _ _ _ _ _ hP hS hB hMo hw hl
      by_cases c110 : (xs (6 * k)) &&& 15 = 15
      · refine lv_tableIn (off := 561) (tgt := 594) hx hb d_law_33 (by rw [c110]; decide) (by rw [c110]; decide) (by rw [c110]; rfl) (by decide) ?_
        refine lv_aload_n hx hb d_law_594 rfl (lv_at hl 2 rfl) ?_
        refine lv_aload_n hx hb d_law_595 rfl (lv_at hl 3 rfl) ?_
        refine lv_iload_n hx hb d_law_596 rfl (lv_at hl 0 rfl) ?_
        refine lv_iconst (v := 1) hx hb d_law_597 (by decide) ?_
        refine lv_iadd hx hb d_law_598 ?_
        rw [show nI (6 * k) + 1 = nI (6 * k + 1) from nI_add _ 1]
        refine va_sld hx hb hX hbl hbA hS (vp_in_nI (show 6 * k + 1 < L by omega) (by omega)) d_law_599 ?_
        rw [nI_clamp (show 6 * k + 1 < 2 ^ 31 by omega)]
        refine g_ri (g_runV (As := [.int (xs (6 * k + 1))]) (rest := []) ⟨hx, hb, hml, hown, hts⟩ (c_MB_count l hB hw (xs (6 * k + 1))) st_MB_count k_425 ⟨rfl, rfl, by decide, by decide⟩ rfl (gI.preV hK hS hP fB rfl _) rfl hl.1 rfl (Nat.le_of_ble_eq_true rfl) d_law_600 ⟨by show _ ≤ 600000; omega, by show _ ≤ 7302249; omega⟩) (fun r111 hr111 => ?_)
        subst hr111
        refine lv_aload_n hx hb d_law_603 rfl (lv_at hl 1 rfl) ?_
        refine lv_aload_n hx hb d_law_604 rfl (lv_at hl 3 rfl) ?_
        refine lv_iload_n hx hb d_law_605 rfl (lv_at hl 0 rfl) ?_
        refine lv_iconst (v := 1) hx hb d_law_606 (by decide) ?_
        refine lv_iadd hx hb d_law_607 ?_
        rw [show nI (6 * k) + 1 = nI (6 * k + 1) from nI_add _ 1]
        refine va_sld hx hb hX hbl hbA hS (vp_in_nI (show 6 * k + 1 < L by omega) (by omega)) d_law_608 ?_
        rw [nI_clamp (show 6 * k + 1 < 2 ^ 31 by omega)]
        refine g_ri (g_runV (As := [.int (xs (6 * k + 1))]) (rest := [.int (sCount σ (xs (6 * k + 1)))]) ⟨hx, hb, hml, hown, hts⟩ (c_MM_count l hMo hw (xs (6 * k + 1))) st_MM_count k_611 ⟨rfl, rfl, by decide, by decide⟩ rfl (gI.preV hK hS hP hMM.1 rfl _) rfl hl.1 rfl (Nat.le_of_ble_eq_true rfl) d_law_609 ⟨by show _ ≤ 600000; omega, by show _ ≤ 7302249; omega⟩) (fun r112 hr112 => ?_)
        subst hr112
        refine lv_icmp_eq (tgt := 617) hx hb d_law_612 (by decide) (fun _ => ?_) (fun h9 => absurd rfl h9)
        refine W.widen (k := 100 + 8 * (k + 1)) (n := 5000 + 1004 * (k + 1)) (by omega) (by omega) ?_
        exact hback _ _ _ _ _ hP hS hB hMo hw hl
      refine lv_tableOut (tgt := 617) hx hb d_law_33 (by have q0 := lv_neT c3 (show (0 : Int32).toInt = 0 by decide); have q1 := lv_neT c11 (show (1 : Int32).toInt = 1 by decide); have q2 := lv_neT c16 (show (2 : Int32).toInt = 2 by decide); have q3 := lv_neT c24 (show (3 : Int32).toInt = 3 by decide); have q4 := lv_neT c32 (show (4 : Int32).toInt = 4 by decide); have q5 := lv_neT c50 (show (5 : Int32).toInt = 5 by decide); have q6 := lv_neT c58 (show (6 : Int32).toInt = 6 by decide); have q7 := lv_neT c66 (show (7 : Int32).toInt = 7 by decide); have q8 := lv_neT c74 (show (8 : Int32).toInt = 8 by decide); have q9 := lv_neT c82 (show (9 : Int32).toInt = 9 by decide); have q10 := lv_neT c86 (show (10 : Int32).toInt = 10 by decide); have q11 := lv_neT c90 (show (11 : Int32).toInt = 11 by decide); have q12 := lv_neT c98 (show (12 : Int32).toInt = 12 by decide); have q13 := lv_neT c102 (show (13 : Int32).toInt = 13 by decide); have q14 := lv_neT c106 (show (14 : Int32).toInt = 14 by decide); have q15 := lv_neT c110 (show (15 : Int32).toInt = 15 by decide); omega) (by decide) ?_
      refine W.widen (k := 100 + 8 * (k + 1)) (n := 5000 + 1004 * (k + 1)) (by omega) (by omega) ?_
      exact hback _ _ _ _ _ hP hS hB hMo hw hl
