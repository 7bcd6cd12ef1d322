set_option maxHeartbeats 4000000 in
set_option maxRecDepth 100000 in
theorem c_MM_unused (l : Launch) {D : va_G} {cI cZ cO cL : ClassId} {b e0 : Nat} {A : gW} {h : Nat} {σ : Bk} (hB : rMo cI cZ cL A h σ) (hw : wf σ)  : Met l y_MM_unused (Cond.code y_MM_unused b_MM_unused 2 (some .int) :: TT) ({ frames := 1, cells := 0, slots := 0, locals := 24 }) (va_Pc [.ref h] (gI D [(cI, .int), (cZ, .boolean), (cO, .object "java/lang/Object"), (cL, .long)] b e0 A)) (vp_Si (fun y => y = sUnused σ)) 0 0 (fun _ => False) := by
  refine Met.ofG (own := R_MM) (by decide +kernel) rfl (Nat.le_of_ble_eq_true rfl) ?_
  intro p e s m below meth c ls hx hb hr hlk hml hown hnm hts hI hl
  have hl : lv_has ls 2 [(0, .ref h)] := hl
  obtain ⟨hP, hK⟩ := hI
  obtain ⟨ad, F, G, hM, hR⟩ := id hB
  obtain ⟨hb0, hru, hrz, hst, hit, hiz, hgn⟩ := id hR
  obtain ⟨w1, w2, w3, w4, w5, w6, w7, w8⟩ := id hw
  refine lv_iconst (v := 0) hx hb d_MM_unused_0 (by decide) ?_
  refine lv_istore_n (lv' := [(1, .int 0), (0, .ref h)]) hx hb d_MM_unused_1 rfl hl (by decide) rfl (fun ls hl => ?_)
  obtain ⟨i, hi0⟩ : ∃ z : Nat, z = 0 := ⟨_, rfl⟩
  obtain ⟨n, hn⟩ : ∃ z : Nat, i + z = (kRs σ).length := ⟨(kRs σ).length - i, by omega⟩
  replace hl : lv_has ls 2 [(1, .int (nI i)), (0, .ref h)] := by rw [hi0, nI_0]; exact hl
  have hinv : fst' (qUnus σ) n i = sUnused σ := by subst hi0; rw [Nat.zero_add] at hn; rw [hn]; rfl
  clear hi0
  induction n generalizing i ls with
  | zero =>
    refine lv_iload_n hx hb d_MM_unused_2 rfl (lv_at hl 0 rfl) ?_
    refine lv_aload_n hx hb d_MM_unused_3 rfl (lv_at hl 1 rfl) ?_
    refine g_get hx hb hts i_MM hown hK.1 hP (show A (20, 0) = some (h, .inr (5, [.ref (ad 0), .ref (ad 1), .int (nI ((kBu σ).length)), .ref (ad 3), .ref (ad 4), .ref (ad 5), .ref (ad 6), .ref (ad 7), .ref (ad 8), .ref (ad 9), .ref (ad 10), .int (nI ((kRs σ).length)), .ref (ad 12), .ref (ad 13), .ref (ad 14), .ref (ad 15), .ref (ad 16), .ref (ad 17), .ref (ad 18), .ref (ad 19), .ref (ad 20), .ref (ad 21), .int (nI ((kIs σ).length)), .int (nI (kMk σ) - 1)])) from hM.1) rfl 11 (by decide) (hts _ k_454) (fun _ h9 => h9) rfl d_MM_unused_4 ?_
    refine lv_icmp_ge (tgt := 39) hx hb d_MM_unused_7 (by decide) (fun _ => ?_) (fun h9 => absurd (nI_le (show (kRs σ).length ≤ i by omega) (by omega)) h9)
    refine lv_bipush (v := (-10)) hx hb d_MM_unused_39 (by decide) ?_
    exact W.iret hx hb hr (fun t ht _ => ⟨_, rfl, (by rw [← hinv]; first | rfl | simp_all [fst', qUnus]), ht⟩) (fun _ h => nomatch h) d_MM_unused_41
  | succ n ih =>
    refine lv_iload_n hx hb d_MM_unused_2 rfl (lv_at hl 0 rfl) ?_
    refine lv_aload_n hx hb d_MM_unused_3 rfl (lv_at hl 1 rfl) ?_
    refine g_get hx hb hts i_MM hown hK.1 hP (show A (20, 0) = some (h, .inr (5, [.ref (ad 0), .ref (ad 1), .int (nI ((kBu σ).length)), .ref (ad 3), .ref (ad 4), .ref (ad 5), .ref (ad 6), .ref (ad 7), .ref (ad 8), .ref (ad 9), .ref (ad 10), .int (nI ((kRs σ).length)), .ref (ad 12), .ref (ad 13), .ref (ad 14), .ref (ad 15), .ref (ad 16), .ref (ad 17), .ref (ad 18), .ref (ad 19), .ref (ad 20), .ref (ad 21), .int (nI ((kIs σ).length)), .int (nI (kMk σ) - 1)])) from hM.1) rfl 11 (by decide) (hts _ k_454) (fun _ h9 => h9) rfl d_MM_unused_4 ?_
    refine lv_icmp_ge (tgt := 39) hx hb d_MM_unused_7 (by decide) (fun h9 => absurd h9 (nI_ge (show i < (kRs σ).length by omega) (by omega))) (fun _ => ?_)
    refine lv_aload_n hx hb d_MM_unused_10 rfl (lv_at hl 1 rfl) ?_
    refine g_get hx hb hts i_MM hown hK.1 hP (show A (20, 0) = some (h, .inr (5, [.ref (ad 0), .ref (ad 1), .int (nI ((kBu σ).length)), .ref (ad 3), .ref (ad 4), .ref (ad 5), .ref (ad 6), .ref (ad 7), .ref (ad 8), .ref (ad 9), .ref (ad 10), .int (nI ((kRs σ).length)), .ref (ad 12), .ref (ad 13), .ref (ad 14), .ref (ad 15), .ref (ad 16), .ref (ad 17), .ref (ad 18), .ref (ad 19), .ref (ad 20), .ref (ad 21), .int (nI ((kIs σ).length)), .int (nI (kMk σ) - 1)])) from hM.1) rfl 5 (by decide) (hts _ k_448) (fun _ h9 => h9) rfl d_MM_unused_11 ?_
    refine lv_iload_n hx hb d_MM_unused_14 rfl (lv_at hl 0 rfl) ?_
    obtain ⟨bz3a, bz3b, bz3c, bz3d, bz3e, -⟩ := w3 i (by omega)
    refine g_zald (v := bI (uLv ((kRs σ).getD i u0))) hx hb hK.1 hP 1 (show A (26, 0) = some (ad 5, .inl (cZ, 24, .inl (F 5))) from hM.2.1 5 rfl) rfl (vp_in_nI (show i < 24 by omega) (by omega)) (by rw [(nI_clamp (show i < 2 ^ 31 by omega))]; exact (hru i (by omega)).2.2.1) d_MM_unused_15 ?_
    refine lv_if_eq (tgt := 33) hx hb d_MM_unused_16 (by decide) (fun c4 => ?_) (fun c4 => ?_)
    · skip
      rw [bI_0] at c4
      refine lv_iinc (v := nI (i + 1)) (lv' := [(1, .int (nI (i + 1))), (0, .ref h)]) hx hb d_MM_unused_33 hl (k := 0) rfl (nI_1 _) (by decide) rfl (fun ls hl => ?_)
      refine lv_goto (tgt := 2) hx hb d_MM_unused_36 (by decide) ?_
      exact ih _ _ (by omega) (lv_sub hl [0, 1] rfl) (by simp_all [fst', qUnus])
    · skip
      rw [bI_0] at c4
      refine lv_aload_n hx hb d_MM_unused_19 rfl (lv_at hl 1 rfl) ?_
      refine lv_iload_n hx hb d_MM_unused_20 rfl (lv_at hl 0 rfl) ?_
      refine lv_aload_n hx hb d_MM_unused_21 rfl (lv_at hl 1 rfl) ?_
      refine g_get hx hb hts i_MM hown hK.1 hP (show A (20, 0) = some (h, .inr (5, [.ref (ad 0), .ref (ad 1), .int (nI ((kBu σ).length)), .ref (ad 3), .ref (ad 4), .ref (ad 5), .ref (ad 6), .ref (ad 7), .ref (ad 8), .ref (ad 9), .ref (ad 10), .int (nI ((kRs σ).length)), .ref (ad 12), .ref (ad 13), .ref (ad 14), .ref (ad 15), .ref (ad 16), .ref (ad 17), .ref (ad 18), .ref (ad 19), .ref (ad 20), .ref (ad 21), .int (nI ((kIs σ).length)), .int (nI (kMk σ) - 1)])) from hM.1) rfl 22 (by decide) (hts _ k_465) (fun _ h9 => h9) rfl d_MM_unused_22 ?_
      refine g_ri (g_runV (As := [.int (nI i), .int (nI ((kIs σ).length))]) (rest := []) ⟨hx, hb, hml, hown, hts⟩ (c_MM_usesW l hM hR hw (r := i) (by omega)) st_MM_uses k_560 ⟨rfl, rfl, by decide, by decide⟩ rfl (gI.preV hK va_S.rf hP (show A (20, 0) = some (h, .inr (5, [.ref (ad 0), .ref (ad 1), .int (nI ((kBu σ).length)), .ref (ad 3), .ref (ad 4), .ref (ad 5), .ref (ad 6), .ref (ad 7), .ref (ad 8), .ref (ad 9), .ref (ad 10), .int (nI ((kRs σ).length)), .ref (ad 12), .ref (ad 13), .ref (ad 14), .ref (ad 15), .ref (ad 16), .ref (ad 17), .ref (ad 18), .ref (ad 19), .ref (ad 20), .ref (ad 21), .int (nI ((kIs σ).length)), .int (nI (kMk σ) - 1)])) from hM.1) rfl _) rfl hl.1 rfl (Nat.le_of_ble_eq_true rfl) d_MM_unused_25 ⟨by decide, by decide⟩) (fun r5 hr5 => ?_)
      subst hr5
      refine lv_if_ne (tgt := 33) hx hb d_MM_unused_28 (by decide) (fun c6 => ?_) (fun c6 => ?_)
      · skip
        replace c6 : ¬ uUs ((kRs σ).getD i u0) = 0 := fun q => c6 ((nI_eq (a := uUs ((kRs σ).getD i u0)) (b := 0) (by omega) (by decide)).mpr q)
        refine lv_iinc (v := nI (i + 1)) (lv' := [(1, .int (nI (i + 1))), (0, .ref h)]) hx hb d_MM_unused_33 hl (k := 0) rfl (nI_1 _) (by decide) rfl (fun ls hl => ?_)
        refine lv_goto (tgt := 2) hx hb d_MM_unused_36 (by decide) ?_
        exact ih _ _ (by omega) (lv_sub hl [0, 1] rfl) (by simp_all [fst', qUnus])
      · skip
        replace c6 : uUs ((kRs σ).getD i u0) = 0 := (nI_eq (a := uUs ((kRs σ).getD i u0)) (b := 0) (by omega) (by decide)).mp c6
        refine lv_iload_n hx hb d_MM_unused_31 rfl (lv_at hl 0 rfl) ?_
        exact W.iret hx hb hr (fun t ht _ => ⟨_, rfl, (by rw [← hinv]; first | rfl | simp_all [fst', qUnus]), ht⟩) (fun _ h => nomatch h) d_MM_unused_32
set_option maxHeartbeats 4000000 in
set_option maxRecDepth 100000 in
theorem c_MM_about (l : Launch) {D : va_G} {cI cZ cO cL : ClassId} {b e0 : Nat} {A : gW} {h : Nat} {σ : Bk} (hB : rMo cI cZ cL A h σ) (hw : wf σ) (x wh : Int32) : Met l y_MM_about (Cond.code y_MM_about b_MM_about 3 (some .int) :: TT) ({ frames := 1, cells := 0, slots := 0, locals := 24 }) (va_Pc [.ref h, .int x, .int wh] (gI D [(cI, .int), (cZ, .boolean), (cO, .object "java/lang/Object"), (cL, .long)] b e0 A)) (vp_Si (fun z => z = sAbout σ x wh)) 0 0 (fun _ => False) := by
  refine Met.ofG (own := R_MM) (by decide +kernel) rfl (Nat.le_of_ble_eq_true rfl) ?_
  intro p e s m below meth c ls hx hb hr hlk hml hown hnm hts hI hl
  have hl : lv_has ls 3 [(0, .ref h), (1, .int x), (2, .int wh)] := hl
  obtain ⟨hP, hK⟩ := hI
  obtain ⟨ad, F, G, hM, hR⟩ := id hB
  obtain ⟨hb0, hru, hrz, hst, hit, hiz, hgn⟩ := id hR
  obtain ⟨w1, w2, w3, w4, w5, w6, w7, w8⟩ := id hw
  refine lv_iload_n hx hb d_MM_about_0 rfl (lv_at hl 1 rfl) ?_
  refine lv_if_lt (tgt := 21) hx hb d_MM_about_1 (by decide) (fun c1 => ?_) (fun c1 => ?_)
  · skip
    refine lv_iconst (v := (-1)) hx hb d_MM_about_21 (by decide) ?_
    exact W.iret hx hb hr (fun t ht _ => ⟨_, rfl, (by unfold sAbout; rw [if_neg (by rw [inM0 c1]; decide)]), ht⟩) (fun _ h => nomatch h) d_MM_about_22
  · skip
    refine lv_iload_n hx hb d_MM_about_4 rfl (lv_at hl 1 rfl) ?_
    refine lv_aload_n hx hb d_MM_about_5 rfl (lv_at hl 0 rfl) ?_
    refine g_get hx hb hts i_MM hown hK.1 hP (show A (20, 0) = some (h, .inr (5, [.ref (ad 0), .ref (ad 1), .int (nI ((kBu σ).length)), .ref (ad 3), .ref (ad 4), .ref (ad 5), .ref (ad 6), .ref (ad 7), .ref (ad 8), .ref (ad 9), .ref (ad 10), .int (nI ((kRs σ).length)), .ref (ad 12), .ref (ad 13), .ref (ad 14), .ref (ad 15), .ref (ad 16), .ref (ad 17), .ref (ad 18), .ref (ad 19), .ref (ad 20), .ref (ad 21), .int (nI ((kIs σ).length)), .int (nI (kMk σ) - 1)])) from hM.1) rfl 11 (by decide) (hts _ k_454) (fun _ h9 => h9) rfl d_MM_about_6 ?_
    refine lv_icmp_ge (tgt := 21) hx hb d_MM_about_9 (by decide) (fun c2 => ?_) (fun c2 => ?_)
    · skip
      refine lv_iconst (v := (-1)) hx hb d_MM_about_21 (by decide) ?_
      exact W.iret hx hb hr (fun t ht _ => ⟨_, rfl, (by unfold sAbout; rw [if_neg (by rw [inM1 c2 (by omega)]; decide)]), ht⟩) (fun _ h => nomatch h) d_MM_about_22
    · skip
      obtain ⟨j, hj, rfl⟩ := inM c1 c2 (show (kRs σ).length ≤ 1000 by omega)
      have hcl := nI_clamp (show j < 2 ^ 31 by omega)
      have hjn := inN_t (show (kRs σ).length ≤ 1000 by omega) hj
      refine lv_iload_n hx hb d_MM_about_12 rfl (lv_at hl 2 rfl) ?_
      refine lv_if_lt (tgt := 21) hx hb d_MM_about_13 (by decide) (fun c3 => ?_) (fun c3 => ?_)
      · skip
        refine lv_iconst (v := (-1)) hx hb d_MM_about_21 (by decide) ?_
        exact W.iret hx hb hr (fun t ht _ => ⟨_, rfl, (by unfold sAbout; rw [if_pos hjn, hcl, if_neg (abN (Or.inl c3)).1, if_neg (abN (Or.inl c3)).2.1, if_neg (abN (Or.inl c3)).2.2]), ht⟩) (fun _ h => nomatch h) d_MM_about_22
      · skip
        refine lv_iload_n hx hb d_MM_about_16 rfl (lv_at hl 2 rfl) ?_
        refine lv_iconst (v := 2) hx hb d_MM_about_17 (by decide) ?_
        refine lv_icmp_le (tgt := 23) hx hb d_MM_about_18 (by decide) (fun c4 => ?_) (fun c4 => ?_)
        · skip
          refine lv_iload_n hx hb d_MM_about_23 rfl (lv_at hl 2 rfl) ?_
          refine lv_if_ne (tgt := 36) hx hb d_MM_about_24 (by decide) (fun c5 => ?_) (fun c5 => ?_)
          · skip
            refine lv_iload_n hx hb d_MM_about_36 rfl (lv_at hl 2 rfl) ?_
            refine lv_iconst (v := 1) hx hb d_MM_about_37 (by decide) ?_
            refine lv_icmp_ne (tgt := 53) hx hb d_MM_about_38 (by decide) (fun c6 => ?_) (fun c6 => ?_)
            · skip
              refine lv_aload_n hx hb d_MM_about_53 rfl (lv_at hl 0 rfl) ?_
              refine g_get hx hb hts i_MM hown hK.1 hP (show A (20, 0) = some (h, .inr (5, [.ref (ad 0), .ref (ad 1), .int (nI ((kBu σ).length)), .ref (ad 3), .ref (ad 4), .ref (ad 5), .ref (ad 6), .ref (ad 7), .ref (ad 8), .ref (ad 9), .ref (ad 10), .int (nI ((kRs σ).length)), .ref (ad 12), .ref (ad 13), .ref (ad 14), .ref (ad 15), .ref (ad 16), .ref (ad 17), .ref (ad 18), .ref (ad 19), .ref (ad 20), .ref (ad 21), .int (nI ((kIs σ).length)), .int (nI (kMk σ) - 1)])) from hM.1) rfl 5 (by decide) (hts _ k_448) (fun _ h9 => h9) rfl d_MM_about_54 ?_
              refine lv_iload_n hx hb d_MM_about_57 rfl (lv_at hl 1 rfl) ?_
              obtain ⟨bz7a, bz7b, bz7c, bz7d, bz7e, -⟩ := w3 j (by omega)
              refine g_zald (v := bI (uLv ((kRs σ).getD j u0))) hx hb hK.1 hP 1 (show A (26, 0) = some (ad 5, .inl (cZ, 24, .inl (F 5))) from hM.2.1 5 rfl) rfl (vp_in_nI (show j < 24 by omega) (by omega)) (by rw [(nI_clamp (show j < 2 ^ 31 by omega))]; exact (hru j (by omega)).2.2.1) d_MM_about_58 ?_
              refine lv_if_eq (tgt := 66) hx hb d_MM_about_59 (by decide) (fun c8 => ?_) (fun c8 => ?_)
              · skip
                rw [bI_0] at c8
                refine lv_iconst (v := 0) hx hb d_MM_about_66 (by decide) ?_
                exact W.iret hx hb hr (fun t ht _ => ⟨_, rfl, (by have e9 := ab2 c3 c4 c5 c6; unfold sAbout; rw [if_pos hjn, hcl, e9, if_neg (by decide), if_neg (by decide), if_pos rfl]; simp_all [bI]), ht⟩) (fun _ h => nomatch h) d_MM_about_67
              · skip
                rw [bI_0] at c8
                refine lv_iconst (v := 1) hx hb d_MM_about_62 (by decide) ?_
                refine lv_goto (tgt := 67) hx hb d_MM_about_63 (by decide) ?_
                exact W.iret hx hb hr (fun t ht _ => ⟨_, rfl, (by have e9 := ab2 c3 c4 c5 c6; unfold sAbout; rw [if_pos hjn, hcl, e9, if_neg (by decide), if_neg (by decide), if_pos rfl]; simp_all [bI]), ht⟩) (fun _ h => nomatch h) d_MM_about_67
            · skip
              refine lv_aload_n hx hb d_MM_about_41 rfl (lv_at hl 0 rfl) ?_
              refine lv_iload_n hx hb d_MM_about_42 rfl (lv_at hl 1 rfl) ?_
              refine lv_aload_n hx hb d_MM_about_43 rfl (lv_at hl 0 rfl) ?_
              refine g_get hx hb hts i_MM hown hK.1 hP (show A (20, 0) = some (h, .inr (5, [.ref (ad 0), .ref (ad 1), .int (nI ((kBu σ).length)), .ref (ad 3), .ref (ad 4), .ref (ad 5), .ref (ad 6), .ref (ad 7), .ref (ad 8), .ref (ad 9), .ref (ad 10), .int (nI ((kRs σ).length)), .ref (ad 12), .ref (ad 13), .ref (ad 14), .ref (ad 15), .ref (ad 16), .ref (ad 17), .ref (ad 18), .ref (ad 19), .ref (ad 20), .ref (ad 21), .int (nI ((kIs σ).length)), .int (nI (kMk σ) - 1)])) from hM.1) rfl 22 (by decide) (hts _ k_465) (fun _ h9 => h9) rfl d_MM_about_44 ?_
              refine g_ri (g_runV (As := [.int (nI j), .int (nI ((kIs σ).length))]) (rest := []) ⟨hx, hb, hml, hown, hts⟩ (c_MM_usesW l hM hR hw (r := j) (by omega)) st_MM_uses k_560 ⟨rfl, rfl, by decide, by decide⟩ rfl (gI.preV hK va_S.rf hP (show A (20, 0) = some (h, .inr (5, [.ref (ad 0), .ref (ad 1), .int (nI ((kBu σ).length)), .ref (ad 3), .ref (ad 4), .ref (ad 5), .ref (ad 6), .ref (ad 7), .ref (ad 8), .ref (ad 9), .ref (ad 10), .int (nI ((kRs σ).length)), .ref (ad 12), .ref (ad 13), .ref (ad 14), .ref (ad 15), .ref (ad 16), .ref (ad 17), .ref (ad 18), .ref (ad 19), .ref (ad 20), .ref (ad 21), .int (nI ((kIs σ).length)), .int (nI (kMk σ) - 1)])) from hM.1) rfl _) rfl hl.1 rfl (Nat.le_of_ble_eq_true rfl) d_MM_about_47 ⟨by decide, by decide⟩) (fun r9 hr9 => ?_)
              subst hr9
              refine lv_goto (tgt := 67) hx hb d_MM_about_50 (by decide) ?_
              exact W.iret hx hb hr (fun t ht _ => ⟨_, rfl, (by unfold sAbout; rw [if_pos hjn, hcl, if_neg c5, if_pos (by simpa using c6)]), ht⟩) (fun _ h => nomatch h) d_MM_about_67
          · skip
            refine lv_aload_n hx hb d_MM_about_27 rfl (lv_at hl 0 rfl) ?_
            refine g_get hx hb hts i_MM hown hK.1 hP (show A (20, 0) = some (h, .inr (5, [.ref (ad 0), .ref (ad 1), .int (nI ((kBu σ).length)), .ref (ad 3), .ref (ad 4), .ref (ad 5), .ref (ad 6), .ref (ad 7), .ref (ad 8), .ref (ad 9), .ref (ad 10), .int (nI ((kRs σ).length)), .ref (ad 12), .ref (ad 13), .ref (ad 14), .ref (ad 15), .ref (ad 16), .ref (ad 17), .ref (ad 18), .ref (ad 19), .ref (ad 20), .ref (ad 21), .int (nI ((kIs σ).length)), .int (nI (kMk σ) - 1)])) from hM.1) rfl 10 (by decide) (hts _ k_453) (fun _ h9 => h9) rfl d_MM_about_28 ?_
            refine lv_iload_n hx hb d_MM_about_31 rfl (lv_at hl 1 rfl) ?_
            obtain ⟨bz10a, bz10b, bz10c, bz10d, bz10e, -⟩ := w3 j (by omega)
            refine g_iald (v := nI (uAc ((kRs σ).getD j u0)).length) hx hb hK.1 hP 0 (show A (31, 0) = some (ad 10, .inl (cI, 24, .inl (F 10))) from hM.2.1 10 rfl) rfl (vp_in_nI (show j < 24 by omega) (by omega)) (by rw [(nI_clamp (show j < 2 ^ 31 by omega))]; exact (hru j (by omega)).2.2.2.1) d_MM_about_32 ?_
            refine lv_goto (tgt := 67) hx hb d_MM_about_33 (by decide) ?_
            exact W.iret hx hb hr (fun t ht _ => ⟨_, rfl, (by unfold sAbout; rw [if_pos hjn, hcl, if_pos (by simpa using c5)]), ht⟩) (fun _ h => nomatch h) d_MM_about_67
        · skip
          refine lv_iconst (v := (-1)) hx hb d_MM_about_21 (by decide) ?_
          exact W.iret hx hb hr (fun t ht _ => ⟨_, rfl, (by unfold sAbout; rw [if_pos hjn, hcl, if_neg (abN (Or.inr c4)).1, if_neg (abN (Or.inr c4)).2.1, if_neg (abN (Or.inr c4)).2.2]), ht⟩) (fun _ h => nomatch h) d_MM_about_22
set_option maxHeartbeats 4000000 in
set_option maxRecDepth 100000 in
theorem c_MM_count (l : Launch) {D : va_G} {cI cZ cO cL : ClassId} {b e0 : Nat} {A : gW} {h : Nat} {σ : Bk} (hB : rMo cI cZ cL A h σ) (hw : wf σ) (wh : Int32) : Met l y_MM_count (Cond.code y_MM_count b_MM_count 4 (some .int) :: TT) ({ frames := 0, cells := 0, slots := 0, locals := 0 }) (va_Pc [.ref h, .int wh] (gI D [(cI, .int), (cZ, .boolean), (cO, .object "java/lang/Object"), (cL, .long)] b e0 A)) (vp_Si (fun y => y = sCount σ wh)) 0 0 (fun _ => False) := by
  refine Met.ofG (own := R_MM) (by decide +kernel) rfl (Nat.le_of_ble_eq_true rfl) ?_
  intro p e s m below meth c ls hx hb hr hlk hml hown hnm hts hI hl
  have hl : lv_has ls 4 [(0, .ref h), (1, .int wh)] := hl
  obtain ⟨hP, hK⟩ := hI
  obtain ⟨ad, F, G, hM, hR⟩ := id hB
  obtain ⟨hb0, hru, hrz, hst, hit, hiz, hgn⟩ := id hR
  obtain ⟨w1, w2, w3, w4, w5, w6, w7, w8⟩ := id hw
  refine lv_iconst (v := 0) hx hb d_MM_count_0 (by decide) ?_
  refine lv_istore_n (lv' := [(2, .int 0), (0, .ref h), (1, .int wh)]) hx hb d_MM_count_1 rfl hl (by decide) rfl (fun ls hl => ?_)
  refine lv_iload_n hx hb d_MM_count_2 rfl (lv_at hl 2 rfl) ?_
  by_cases c1 : wh = 0
  · refine lv_tableIn (off := 37) (tgt := 40) hx hb d_MM_count_3 (by rw [c1]; decide) (by rw [c1]; decide) (by rw [c1]; rfl) (by decide) ?_
    subst c1
    refine lv_aload_n hx hb d_MM_count_40 rfl (lv_at hl 1 rfl) ?_
    refine g_get hx hb hts i_MM hown hK.1 hP (show A (20, 0) = some (h, .inr (5, [.ref (ad 0), .ref (ad 1), .int (nI ((kBu σ).length)), .ref (ad 3), .ref (ad 4), .ref (ad 5), .ref (ad 6), .ref (ad 7), .ref (ad 8), .ref (ad 9), .ref (ad 10), .int (nI ((kRs σ).length)), .ref (ad 12), .ref (ad 13), .ref (ad 14), .ref (ad 15), .ref (ad 16), .ref (ad 17), .ref (ad 18), .ref (ad 19), .ref (ad 20), .ref (ad 21), .int (nI ((kIs σ).length)), .int (nI (kMk σ) - 1)])) from hM.1) rfl 22 (by decide) (hts _ k_465) (fun _ h9 => h9) rfl d_MM_count_41 ?_
    exact W.iret hx hb hr (fun t ht _ => ⟨_, rfl, (by simp_all [sCount]), ht⟩) (fun _ h => nomatch h) d_MM_count_44
  by_cases c2 : wh = 1
  · refine lv_tableIn (off := 42) (tgt := 45) hx hb d_MM_count_3 (by rw [c2]; decide) (by rw [c2]; decide) (by rw [c2]; rfl) (by decide) ?_
    subst c2
    refine lv_iconst (v := 0) hx hb d_MM_count_45 (by decide) ?_
    refine lv_istore_n (lv' := [(3, .int 0), (2, .int 0), (0, .ref h), (1, .int 1)]) hx hb d_MM_count_46 rfl hl (by decide) rfl (fun ls hl => ?_)
    obtain ⟨i, hi0⟩ : ∃ z : Nat, z = 0 := ⟨_, rfl⟩
    obtain ⟨cn, hcn0⟩ : ∃ z : Nat, z = 0 := ⟨_, rfl⟩
    obtain ⟨n, hn⟩ : ∃ z : Nat, i + z = (kIs σ).length := ⟨(kIs σ).length - i, by omega⟩
    replace hl : lv_has ls 4 [(3, .int (nI i)), (2, .int (nI cn)), (0, .ref h), (1, .int 1)] := by rw [hi0, hcn0, nI_0]; exact hl
    have hinv : cn = cnt (qCnt σ 0) i := by subst hi0 hcn0; rfl
    clear hi0 hcn0
    induction n generalizing i cn ls with
    | zero =>
      refine lv_iload_n hx hb d_MM_count_47 rfl (lv_at hl 0 rfl) ?_
      refine lv_aload_n hx hb d_MM_count_48 rfl (lv_at hl 2 rfl) ?_
      refine g_get hx hb hts i_MM hown hK.1 hP (show A (20, 0) = some (h, .inr (5, [.ref (ad 0), .ref (ad 1), .int (nI ((kBu σ).length)), .ref (ad 3), .ref (ad 4), .ref (ad 5), .ref (ad 6), .ref (ad 7), .ref (ad 8), .ref (ad 9), .ref (ad 10), .int (nI ((kRs σ).length)), .ref (ad 12), .ref (ad 13), .ref (ad 14), .ref (ad 15), .ref (ad 16), .ref (ad 17), .ref (ad 18), .ref (ad 19), .ref (ad 20), .ref (ad 21), .int (nI ((kIs σ).length)), .int (nI (kMk σ) - 1)])) from hM.1) rfl 22 (by decide) (hts _ k_465) (fun _ h9 => h9) rfl d_MM_count_49 ?_
      refine lv_icmp_ge (tgt := 87) hx hb d_MM_count_52 (by decide) (fun _ => ?_) (fun h9 => absurd (nI_le (show (kIs σ).length ≤ i by omega) (by omega)) h9)
      refine lv_iload_n hx hb d_MM_count_87 rfl (lv_at hl 1 rfl) ?_
      exact W.iret hx hb hr (fun t ht _ => ⟨_, rfl, (by rw [hinv, show i = (kIs σ).length by omega]; simp_all [sCount]), ht⟩) (fun _ h => nomatch h) d_MM_count_88
    | succ n ih =>
      refine lv_iload_n hx hb d_MM_count_47 rfl (lv_at hl 0 rfl) ?_
      refine lv_aload_n hx hb d_MM_count_48 rfl (lv_at hl 2 rfl) ?_
      refine g_get hx hb hts i_MM hown hK.1 hP (show A (20, 0) = some (h, .inr (5, [.ref (ad 0), .ref (ad 1), .int (nI ((kBu σ).length)), .ref (ad 3), .ref (ad 4), .ref (ad 5), .ref (ad 6), .ref (ad 7), .ref (ad 8), .ref (ad 9), .ref (ad 10), .int (nI ((kRs σ).length)), .ref (ad 12), .ref (ad 13), .ref (ad 14), .ref (ad 15), .ref (ad 16), .ref (ad 17), .ref (ad 18), .ref (ad 19), .ref (ad 20), .ref (ad 21), .int (nI ((kIs σ).length)), .int (nI (kMk σ) - 1)])) from hM.1) rfl 22 (by decide) (hts _ k_465) (fun _ h9 => h9) rfl d_MM_count_49 ?_
      refine lv_icmp_ge (tgt := 87) hx hb d_MM_count_52 (by decide) (fun h9 => absurd h9 (nI_ge (show i < (kIs σ).length by omega) (by omega))) (fun _ => ?_)
      refine lv_aload_n hx hb d_MM_count_55 rfl (lv_at hl 2 rfl) ?_
      refine g_get hx hb hts i_MM hown hK.1 hP (show A (20, 0) = some (h, .inr (5, [.ref (ad 0), .ref (ad 1), .int (nI ((kBu σ).length)), .ref (ad 3), .ref (ad 4), .ref (ad 5), .ref (ad 6), .ref (ad 7), .ref (ad 8), .ref (ad 9), .ref (ad 10), .int (nI ((kRs σ).length)), .ref (ad 12), .ref (ad 13), .ref (ad 14), .ref (ad 15), .ref (ad 16), .ref (ad 17), .ref (ad 18), .ref (ad 19), .ref (ad 20), .ref (ad 21), .int (nI ((kIs σ).length)), .int (nI (kMk σ) - 1)])) from hM.1) rfl 20 (by decide) (hts _ k_463) (fun _ h9 => h9) rfl d_MM_count_56 ?_
      refine lv_iload_n hx hb d_MM_count_59 rfl (lv_at hl 0 rfl) ?_
      obtain ⟨⟨bz5a, bz5b⟩, bz5c⟩ := w4 i (by omega)
      refine g_zald (v := bI (iLv ((kIs σ).getD i i0))) hx hb hK.1 hP 1 (show A (41, 0) = some (ad 20, .inl (cZ, 160, .inl (F 20))) from hM.2.1 20 rfl) rfl (vp_in_nI (show i < 160 by omega) (by omega)) (by rw [(nI_clamp (show i < 2 ^ 31 by omega))]; exact (hit i (by omega)).2.2.2.2.2.2.1) d_MM_count_60 ?_
      refine lv_if_eq (tgt := 81) hx hb d_MM_count_61 (by decide) (fun c6 => ?_) (fun c6 => ?_)
      · skip
        rw [bI_0] at c6
        refine lv_iinc (v := nI (i + 1)) (lv' := [(3, .int (nI (i + 1))), (2, .int (nI cn)), (0, .ref h), (1, .int 1)]) hx hb d_MM_count_81 hl (k := 0) rfl (nI_1 _) (by decide) rfl (fun ls hl => ?_)
        refine lv_goto (tgt := 47) hx hb d_MM_count_84 (by decide) ?_
        exact ih _ _ _ (by omega) (lv_sub hl [0, 1, 2, 3] rfl) (by simp_all [cnt, qCnt])
      · skip
        rw [bI_0] at c6
        refine lv_iload_n hx hb d_MM_count_64 rfl (lv_at hl 3 rfl) ?_
        refine lv_iconst (v := 1) hx hb d_MM_count_65 (by decide) ?_
        refine lv_icmp_eq (tgt := 78) hx hb d_MM_count_66 (by decide) (fun _ => ?_) (fun h9 => absurd (by decide) h9)
        refine lv_iinc (v := nI (cn + 1)) (lv' := [(2, .int (nI (cn + 1))), (3, .int (nI i)), (0, .ref h), (1, .int 1)]) hx hb d_MM_count_78 hl (k := 1) rfl (nI_1 _) (by decide) rfl (fun ls hl => ?_)
        refine lv_iinc (v := nI (i + 1)) (lv' := [(3, .int (nI (i + 1))), (2, .int (nI (cn + 1))), (0, .ref h), (1, .int 1)]) hx hb d_MM_count_81 hl (k := 1) rfl (nI_1 _) (by decide) rfl (fun ls hl => ?_)
        refine lv_goto (tgt := 47) hx hb d_MM_count_84 (by decide) ?_
        exact ih _ _ _ (by omega) (lv_sub hl [0, 1, 2, 3] rfl) (by simp_all [cnt, qCnt])
  by_cases c8 : wh = 2
  · refine lv_tableIn (off := 42) (tgt := 45) hx hb d_MM_count_3 (by rw [c8]; decide) (by rw [c8]; decide) (by rw [c8]; rfl) (by decide) ?_
    subst c8
    refine lv_iconst (v := 0) hx hb d_MM_count_45 (by decide) ?_
    refine lv_istore_n (lv' := [(3, .int 0), (2, .int 0), (0, .ref h), (1, .int 2)]) hx hb d_MM_count_46 rfl hl (by decide) rfl (fun ls hl => ?_)
    obtain ⟨i, hi0⟩ : ∃ z : Nat, z = 0 := ⟨_, rfl⟩
    obtain ⟨cn, hcn0⟩ : ∃ z : Nat, z = 0 := ⟨_, rfl⟩
    obtain ⟨n, hn⟩ : ∃ z : Nat, i + z = (kIs σ).length := ⟨(kIs σ).length - i, by omega⟩
    replace hl : lv_has ls 4 [(3, .int (nI i)), (2, .int (nI cn)), (0, .ref h), (1, .int 2)] := by rw [hi0, hcn0, nI_0]; exact hl
    have hinv : cn = cnt (qCnt σ 1) i := by subst hi0 hcn0; rfl
    clear hi0 hcn0
    induction n generalizing i cn ls with
    | zero =>
      refine lv_iload_n hx hb d_MM_count_47 rfl (lv_at hl 0 rfl) ?_
      refine lv_aload_n hx hb d_MM_count_48 rfl (lv_at hl 2 rfl) ?_
      refine g_get hx hb hts i_MM hown hK.1 hP (show A (20, 0) = some (h, .inr (5, [.ref (ad 0), .ref (ad 1), .int (nI ((kBu σ).length)), .ref (ad 3), .ref (ad 4), .ref (ad 5), .ref (ad 6), .ref (ad 7), .ref (ad 8), .ref (ad 9), .ref (ad 10), .int (nI ((kRs σ).length)), .ref (ad 12), .ref (ad 13), .ref (ad 14), .ref (ad 15), .ref (ad 16), .ref (ad 17), .ref (ad 18), .ref (ad 19), .ref (ad 20), .ref (ad 21), .int (nI ((kIs σ).length)), .int (nI (kMk σ) - 1)])) from hM.1) rfl 22 (by decide) (hts _ k_465) (fun _ h9 => h9) rfl d_MM_count_49 ?_
      refine lv_icmp_ge (tgt := 87) hx hb d_MM_count_52 (by decide) (fun _ => ?_) (fun h9 => absurd (nI_le (show (kIs σ).length ≤ i by omega) (by omega)) h9)
      refine lv_iload_n hx hb d_MM_count_87 rfl (lv_at hl 1 rfl) ?_
      exact W.iret hx hb hr (fun t ht _ => ⟨_, rfl, (by rw [hinv, show i = (kIs σ).length by omega]; simp_all [sCount]), ht⟩) (fun _ h => nomatch h) d_MM_count_88
    | succ n ih =>
      refine lv_iload_n hx hb d_MM_count_47 rfl (lv_at hl 0 rfl) ?_
      refine lv_aload_n hx hb d_MM_count_48 rfl (lv_at hl 2 rfl) ?_
      refine g_get hx hb hts i_MM hown hK.1 hP (show A (20, 0) = some (h, .inr (5, [.ref (ad 0), .ref (ad 1), .int (nI ((kBu σ).length)), .ref (ad 3), .ref (ad 4), .ref (ad 5), .ref (ad 6), .ref (ad 7), .ref (ad 8), .ref (ad 9), .ref (ad 10), .int (nI ((kRs σ).length)), .ref (ad 12), .ref (ad 13), .ref (ad 14), .ref (ad 15), .ref (ad 16), .ref (ad 17), .ref (ad 18), .ref (ad 19), .ref (ad 20), .ref (ad 21), .int (nI ((kIs σ).length)), .int (nI (kMk σ) - 1)])) from hM.1) rfl 22 (by decide) (hts _ k_465) (fun _ h9 => h9) rfl d_MM_count_49 ?_
      refine lv_icmp_ge (tgt := 87) hx hb d_MM_count_52 (by decide) (fun h9 => absurd h9 (nI_ge (show i < (kIs σ).length by omega) (by omega))) (fun _ => ?_)
      refine lv_aload_n hx hb d_MM_count_55 rfl (lv_at hl 2 rfl) ?_
      refine g_get hx hb hts i_MM hown hK.1 hP (show A (20, 0) = some (h, .inr (5, [.ref (ad 0), .ref (ad 1), .int (nI ((kBu σ).length)), .ref (ad 3), .ref (ad 4), .ref (ad 5), .ref (ad 6), .ref (ad 7), .ref (ad 8), .ref (ad 9), .ref (ad 10), .int (nI ((kRs σ).length)), .ref (ad 12), .ref (ad 13), .ref (ad 14), .ref (ad 15), .ref (ad 16), .ref (ad 17), .ref (ad 18), .ref (ad 19), .ref (ad 20), .ref (ad 21), .int (nI ((kIs σ).length)), .int (nI (kMk σ) - 1)])) from hM.1) rfl 20 (by decide) (hts _ k_463) (fun _ h9 => h9) rfl d_MM_count_56 ?_
      refine lv_iload_n hx hb d_MM_count_59 rfl (lv_at hl 0 rfl) ?_
      obtain ⟨⟨bz11a, bz11b⟩, bz11c⟩ := w4 i (by omega)
      refine g_zald (v := bI (iLv ((kIs σ).getD i i0))) hx hb hK.1 hP 1 (show A (41, 0) = some (ad 20, .inl (cZ, 160, .inl (F 20))) from hM.2.1 20 rfl) rfl (vp_in_nI (show i < 160 by omega) (by omega)) (by rw [(nI_clamp (show i < 2 ^ 31 by omega))]; exact (hit i (by omega)).2.2.2.2.2.2.1) d_MM_count_60 ?_
      refine lv_if_eq (tgt := 81) hx hb d_MM_count_61 (by decide) (fun c12 => ?_) (fun c12 => ?_)
      · skip
        rw [bI_0] at c12
        refine lv_iinc (v := nI (i + 1)) (lv' := [(3, .int (nI (i + 1))), (2, .int (nI cn)), (0, .ref h), (1, .int 2)]) hx hb d_MM_count_81 hl (k := 0) rfl (nI_1 _) (by decide) rfl (fun ls hl => ?_)
        refine lv_goto (tgt := 47) hx hb d_MM_count_84 (by decide) ?_
        exact ih _ _ _ (by omega) (lv_sub hl [0, 1, 2, 3] rfl) (by simp_all [cnt, qCnt])
      · skip
        rw [bI_0] at c12
        refine lv_iload_n hx hb d_MM_count_64 rfl (lv_at hl 3 rfl) ?_
        refine lv_iconst (v := 1) hx hb d_MM_count_65 (by decide) ?_
        refine lv_icmp_eq (tgt := 78) hx hb d_MM_count_66 (by decide) (fun h9 => absurd h9 (by decide)) (fun _ => ?_)
        refine lv_aload_n hx hb d_MM_count_69 rfl (lv_at hl 2 rfl) ?_
        refine g_get hx hb hts i_MM hown hK.1 hP (show A (20, 0) = some (h, .inr (5, [.ref (ad 0), .ref (ad 1), .int (nI ((kBu σ).length)), .ref (ad 3), .ref (ad 4), .ref (ad 5), .ref (ad 6), .ref (ad 7), .ref (ad 8), .ref (ad 9), .ref (ad 10), .int (nI ((kRs σ).length)), .ref (ad 12), .ref (ad 13), .ref (ad 14), .ref (ad 15), .ref (ad 16), .ref (ad 17), .ref (ad 18), .ref (ad 19), .ref (ad 20), .ref (ad 21), .int (nI ((kIs σ).length)), .int (nI (kMk σ) - 1)])) from hM.1) rfl 21 (by decide) (hts _ k_464) (fun _ h9 => h9) rfl d_MM_count_70 ?_
        refine lv_iload_n hx hb d_MM_count_73 rfl (lv_at hl 0 rfl) ?_
        obtain ⟨⟨bz14a, bz14b⟩, bz14c⟩ := w4 i (by omega)
        refine g_zald (v := bI (iVe ((kIs σ).getD i i0))) hx hb hK.1 hP 1 (show A (42, 0) = some (ad 21, .inl (cZ, 160, .inl (F 21))) from hM.2.1 21 rfl) rfl (vp_in_nI (show i < 160 by omega) (by omega)) (by rw [(nI_clamp (show i < 2 ^ 31 by omega))]; exact (hit i (by omega)).2.2.2.2.2.2.2) d_MM_count_74 ?_
        refine lv_if_eq (tgt := 81) hx hb d_MM_count_75 (by decide) (fun c15 => ?_) (fun c15 => ?_)
        · skip
          rw [bI_0] at c15
          refine lv_iinc (v := nI (i + 1)) (lv' := [(3, .int (nI (i + 1))), (2, .int (nI cn)), (0, .ref h), (1, .int 2)]) hx hb d_MM_count_81 hl (k := 0) rfl (nI_1 _) (by decide) rfl (fun ls hl => ?_)
          refine lv_goto (tgt := 47) hx hb d_MM_count_84 (by decide) ?_
          exact ih _ _ _ (by omega) (lv_sub hl [0, 1, 2, 3] rfl) (by simp_all [cnt, qCnt])
        · skip
          rw [bI_0] at c15
          refine lv_iinc (v := nI (cn + 1)) (lv' := [(2, .int (nI (cn + 1))), (3, .int (nI i)), (0, .ref h), (1, .int 2)]) hx hb d_MM_count_78 hl (k := 1) rfl (nI_1 _) (by decide) rfl (fun ls hl => ?_)
          refine lv_iinc (v := nI (i + 1)) (lv' := [(3, .int (nI (i + 1))), (2, .int (nI (cn + 1))), (0, .ref h), (1, .int 2)]) hx hb d_MM_count_81 hl (k := 1) rfl (nI_1 _) (by decide) rfl (fun ls hl => ?_)
          refine lv_goto (tgt := 47) hx hb d_MM_count_84 (by decide) ?_
          exact ih _ _ _ (by omega) (lv_sub hl [0, 1, 2, 3] rfl) (by simp_all [cnt, qCnt])
  by_cases c16 : wh = 3
  · refine lv_tableIn (off := 86) (tgt := 89) hx hb d_MM_count_3 (by rw [c16]; decide) (by rw [c16]; decide) (by rw [c16]; rfl) (by decide) ?_
    subst c16
    refine lv_aload_n hx hb d_MM_count_89 rfl (lv_at hl 1 rfl) ?_
    refine g_get hx hb hts i_MM hown hK.1 hP (show A (20, 0) = some (h, .inr (5, [.ref (ad 0), .ref (ad 1), .int (nI ((kBu σ).length)), .ref (ad 3), .ref (ad 4), .ref (ad 5), .ref (ad 6), .ref (ad 7), .ref (ad 8), .ref (ad 9), .ref (ad 10), .int (nI ((kRs σ).length)), .ref (ad 12), .ref (ad 13), .ref (ad 14), .ref (ad 15), .ref (ad 16), .ref (ad 17), .ref (ad 18), .ref (ad 19), .ref (ad 20), .ref (ad 21), .int (nI ((kIs σ).length)), .int (nI (kMk σ) - 1)])) from hM.1) rfl 11 (by decide) (hts _ k_454) (fun _ h9 => h9) rfl d_MM_count_90 ?_
    exact W.iret hx hb hr (fun t ht _ => ⟨_, rfl, (by simp_all [sCount]), ht⟩) (fun _ h => nomatch h) d_MM_count_93
  by_cases c17 : wh = 4
  · refine lv_tableIn (off := 91) (tgt := 94) hx hb d_MM_count_3 (by rw [c17]; decide) (by rw [c17]; decide) (by rw [c17]; rfl) (by decide) ?_
    subst c17
    refine lv_iconst (v := 0) hx hb d_MM_count_94 (by decide) ?_
    refine lv_istore_n (lv' := [(3, .int 0), (2, .int 0), (0, .ref h), (1, .int 4)]) hx hb d_MM_count_95 rfl hl (by decide) rfl (fun ls hl => ?_)
    obtain ⟨i, hi0⟩ : ∃ z : Nat, z = 0 := ⟨_, rfl⟩
    obtain ⟨cn, hcn0⟩ : ∃ z : Nat, z = 0 := ⟨_, rfl⟩
    obtain ⟨n, hn⟩ : ∃ z : Nat, i + z = (kRs σ).length := ⟨(kRs σ).length - i, by omega⟩
    replace hl : lv_has ls 4 [(3, .int (nI i)), (2, .int (nI cn)), (0, .ref h), (1, .int 4)] := by rw [hi0, hcn0, nI_0]; exact hl
    have hinv : cn = cnt (qRul σ) i := by subst hi0 hcn0; rfl
    clear hi0 hcn0
    induction n generalizing i cn ls with
    | zero =>
      refine lv_iload_n hx hb d_MM_count_96 rfl (lv_at hl 0 rfl) ?_
      refine lv_aload_n hx hb d_MM_count_97 rfl (lv_at hl 2 rfl) ?_
      refine g_get hx hb hts i_MM hown hK.1 hP (show A (20, 0) = some (h, .inr (5, [.ref (ad 0), .ref (ad 1), .int (nI ((kBu σ).length)), .ref (ad 3), .ref (ad 4), .ref (ad 5), .ref (ad 6), .ref (ad 7), .ref (ad 8), .ref (ad 9), .ref (ad 10), .int (nI ((kRs σ).length)), .ref (ad 12), .ref (ad 13), .ref (ad 14), .ref (ad 15), .ref (ad 16), .ref (ad 17), .ref (ad 18), .ref (ad 19), .ref (ad 20), .ref (ad 21), .int (nI ((kIs σ).length)), .int (nI (kMk σ) - 1)])) from hM.1) rfl 11 (by decide) (hts _ k_454) (fun _ h9 => h9) rfl d_MM_count_98 ?_
      refine lv_icmp_ge (tgt := 122) hx hb d_MM_count_101 (by decide) (fun _ => ?_) (fun h9 => absurd (nI_le (show (kRs σ).length ≤ i by omega) (by omega)) h9)
      refine lv_iload_n hx hb d_MM_count_122 rfl (lv_at hl 1 rfl) ?_
      exact W.iret hx hb hr (fun t ht _ => ⟨_, rfl, (by rw [hinv, show i = (kRs σ).length by omega]; simp_all [sCount]), ht⟩) (fun _ h => nomatch h) d_MM_count_123
    | succ n ih =>
      refine lv_iload_n hx hb d_MM_count_96 rfl (lv_at hl 0 rfl) ?_
      refine lv_aload_n hx hb d_MM_count_97 rfl (lv_at hl 2 rfl) ?_
      refine g_get hx hb hts i_MM hown hK.1 hP (show A (20, 0) = some (h, .inr (5, [.ref (ad 0), .ref (ad 1), .int (nI ((kBu σ).length)), .ref (ad 3), .ref (ad 4), .ref (ad 5), .ref (ad 6), .ref (ad 7), .ref (ad 8), .ref (ad 9), .ref (ad 10), .int (nI ((kRs σ).length)), .ref (ad 12), .ref (ad 13), .ref (ad 14), .ref (ad 15), .ref (ad 16), .ref (ad 17), .ref (ad 18), .ref (ad 19), .ref (ad 20), .ref (ad 21), .int (nI ((kIs σ).length)), .int (nI (kMk σ) - 1)])) from hM.1) rfl 11 (by decide) (hts _ k_454) (fun _ h9 => h9) rfl d_MM_count_98 ?_
      refine lv_icmp_ge (tgt := 122) hx hb d_MM_count_101 (by decide) (fun h9 => absurd h9 (nI_ge (show i < (kRs σ).length by omega) (by omega))) (fun _ => ?_)
      refine lv_aload_n hx hb d_MM_count_104 rfl (lv_at hl 2 rfl) ?_
      refine g_get hx hb hts i_MM hown hK.1 hP (show A (20, 0) = some (h, .inr (5, [.ref (ad 0), .ref (ad 1), .int (nI ((kBu σ).length)), .ref (ad 3), .ref (ad 4), .ref (ad 5), .ref (ad 6), .ref (ad 7), .ref (ad 8), .ref (ad 9), .ref (ad 10), .int (nI ((kRs σ).length)), .ref (ad 12), .ref (ad 13), .ref (ad 14), .ref (ad 15), .ref (ad 16), .ref (ad 17), .ref (ad 18), .ref (ad 19), .ref (ad 20), .ref (ad 21), .int (nI ((kIs σ).length)), .int (nI (kMk σ) - 1)])) from hM.1) rfl 5 (by decide) (hts _ k_448) (fun _ h9 => h9) rfl d_MM_count_105 ?_
      refine lv_iload_n hx hb d_MM_count_108 rfl (lv_at hl 0 rfl) ?_
      obtain ⟨bz20a, bz20b, bz20c, bz20d, bz20e, -⟩ := w3 i (by omega)
      refine g_zald (v := bI (uLv ((kRs σ).getD i u0))) hx hb hK.1 hP 1 (show A (26, 0) = some (ad 5, .inl (cZ, 24, .inl (F 5))) from hM.2.1 5 rfl) rfl (vp_in_nI (show i < 24 by omega) (by omega)) (by rw [(nI_clamp (show i < 2 ^ 31 by omega))]; exact (hru i (by omega)).2.2.1) d_MM_count_109 ?_
      refine lv_if_eq (tgt := 116) hx hb d_MM_count_110 (by decide) (fun c21 => ?_) (fun c21 => ?_)
      · skip
        rw [bI_0] at c21
        refine lv_iinc (v := nI (i + 1)) (lv' := [(3, .int (nI (i + 1))), (2, .int (nI cn)), (0, .ref h), (1, .int 4)]) hx hb d_MM_count_116 hl (k := 0) rfl (nI_1 _) (by decide) rfl (fun ls hl => ?_)
        refine lv_goto (tgt := 96) hx hb d_MM_count_119 (by decide) ?_
        exact ih _ _ _ (by omega) (lv_sub hl [0, 1, 2, 3] rfl) (by simp_all [cnt, qRul])
      · skip
        rw [bI_0] at c21
        refine lv_iinc (v := nI (cn + 1)) (lv' := [(2, .int (nI (cn + 1))), (3, .int (nI i)), (0, .ref h), (1, .int 4)]) hx hb d_MM_count_113 hl (k := 1) rfl (nI_1 _) (by decide) rfl (fun ls hl => ?_)
        refine lv_iinc (v := nI (i + 1)) (lv' := [(3, .int (nI (i + 1))), (2, .int (nI (cn + 1))), (0, .ref h), (1, .int 4)]) hx hb d_MM_count_116 hl (k := 1) rfl (nI_1 _) (by decide) rfl (fun ls hl => ?_)
        refine lv_goto (tgt := 96) hx hb d_MM_count_119 (by decide) ?_
        exact ih _ _ _ (by omega) (lv_sub hl [0, 1, 2, 3] rfl) (by simp_all [cnt, qRul])
  by_cases c22 : wh = 5
  · refine lv_tableIn (off := 121) (tgt := 124) hx hb d_MM_count_3 (by rw [c22]; decide) (by rw [c22]; decide) (by rw [c22]; rfl) (by decide) ?_
    subst c22
    refine lv_aload_n hx hb d_MM_count_124 rfl (lv_at hl 1 rfl) ?_
    refine g_get hx hb hts i_MM hown hK.1 hP (show A (20, 0) = some (h, .inr (5, [.ref (ad 0), .ref (ad 1), .int (nI ((kBu σ).length)), .ref (ad 3), .ref (ad 4), .ref (ad 5), .ref (ad 6), .ref (ad 7), .ref (ad 8), .ref (ad 9), .ref (ad 10), .int (nI ((kRs σ).length)), .ref (ad 12), .ref (ad 13), .ref (ad 14), .ref (ad 15), .ref (ad 16), .ref (ad 17), .ref (ad 18), .ref (ad 19), .ref (ad 20), .ref (ad 21), .int (nI ((kIs σ).length)), .int (nI (kMk σ) - 1)])) from hM.1) rfl 2 (by decide) (hts _ k_445) (fun _ h9 => h9) rfl d_MM_count_125 ?_
    exact W.iret hx hb hr (fun t ht _ => ⟨_, rfl, (by simp_all [sCount]), ht⟩) (fun _ h => nomatch h) d_MM_count_128
  refine lv_tableOut (tgt := 129) hx hb d_MM_count_3 (by have q0 := lv_neT c1 (show (0 : Int32).toInt = 0 by decide); have q1 := lv_neT c2 (show (1 : Int32).toInt = 1 by decide); have q2 := lv_neT c8 (show (2 : Int32).toInt = 2 by decide); have q3 := lv_neT c16 (show (3 : Int32).toInt = 3 by decide); have q4 := lv_neT c17 (show (4 : Int32).toInt = 4 by decide); have q5 := lv_neT c22 (show (5 : Int32).toInt = 5 by decide); omega) (by decide) ?_
  refine lv_iconst (v := (-1)) hx hb d_MM_count_129 (by decide) ?_
  exact W.iret hx hb hr (fun t ht _ => ⟨_, rfl, (by simp_all [sCount]), ht⟩) (fun _ h => nomatch h) d_MM_count_130
