theorem argP_0 (x : X3) : argP x (nI 0) = x.1 := if_pos (by decide)
theorem argP_1 (x : X3) : argP x (nI 1) = x.2.1 := by unfold argP; rw [if_neg (by decide), if_pos (by decide)]
theorem argP_2 (x : X3) : argP x (nI 2) = x.2.2 := by unfold argP; rw [if_neg (by decide), if_neg (by decide)]
theorem ruLe {σ : Bk} (hw : wf σ) (k : Nat) : iRu ((kIs σ).getD k i0) ≤ 1000 := by
  by_cases h : k < (kIs σ).length
  · have := (hw.2.2.2.1 k h).2
    have := hw.1
    omega
  · rw [List.getD_eq_getElem?_getD, List.getElem?_eq_none (by omega)]
    exact Nat.zero_le _
theorem inM {x : Int32} {n : Nat} (h0 : ¬ x < 0) (h1 : ¬ nI n ≤ x) (hn : n ≤ 1000) : ∃ j : Nat, j < n ∧ x = nI j := by
  obtain ⟨j, hj, rfl⟩ := nI_of h0
  rw [nI_leI (by omega) hj] at h1
  exact ⟨j, by omega, rfl⟩
theorem inM0 {x M : Int32} (h : x < 0) : inR x 0 M = false := by simp [inR, h]
theorem inM1 {x : Int32} {n : Nat} (h : nI n ≤ x) (hn : n ≤ 1000) : inR x 0 (nI n - 1) = false := by
  cases h9 : inR x 0 (nI n - 1) with
  | false => rfl
  | true =>
    obtain ⟨j, hj, rfl⟩ := inN hn h9
    rw [nI_leI (by omega) (by omega)] at h
    omega
set_option maxHeartbeats 4000000 in
set_option maxRecDepth 100000 in
theorem c_MM_ruleFits (l : Launch) {D : va_G} {cI cZ cO cL : ClassId} {b e0 : Nat} {A : gW} {h : Nat} {ad : Nat → Nat} {F : Nat → Nat → Int32} {G : Nat → Int64} {bn rn nn m1 : Nat} (hM : rMM cI cZ cL A h ad F G bn rn nn m1) {r i : Nat} {ru : Ru} (hr24 : r < 24) (hi160 : i < 160) (hr0 : mRu F r ru) (hwr : wfR ru) {mk mt : Nat} {x : X3} (b1 : mk < 4) (b2 : mt < 8) (e13 : F 13 i = nI mk) (e14 : F 14 i = nI mt) (e15 : ∀ j, j < 3 → F 15 (3 * i + j) = argP x (nI j)) : Met l y_MM_ruleFits (Cond.code y_MM_ruleFits b_MM_ruleFits 4 (some .boolean) :: TT) ({ frames := 1, cells := 0, slots := 0, locals := 22 }) (va_Pc [.ref h, .int (nI r), .int (nI i)] (gI D [(cI, .int), (cZ, .boolean), (cO, .object "java/lang/Object"), (cL, .long)] b e0 A)) (vp_Si (fun z => z = bI (uAns ru mk mt x))) 0 0 (fun _ => False) := by
  refine Met.ofG (own := R_MM) (by decide +kernel) rfl (Nat.le_of_ble_eq_true rfl) ?_
  intro p e s m below meth c ls hx hb hr hlk hml hown hnm hts hI hl
  have hl : lv_has ls 4 [(0, .ref h), (1, .int (nI r)), (2, .int (nI i))] := hl
  obtain ⟨hP, hK⟩ := hI
  obtain ⟨w1, w2, w3, w4, w5, w6, w7⟩ := id hwr
  refine lv_aload_n hx hb d_MM_ruleFits_0 rfl (lv_at hl 0 rfl) ?_
  refine g_get hx hb hts i_MM hown hK.1 hP (show A (20, 0) = some (h, .inr (5, [.ref (ad 0), .ref (ad 1), .int (nI bn), .ref (ad 3), .ref (ad 4), .ref (ad 5), .ref (ad 6), .ref (ad 7), .ref (ad 8), .ref (ad 9), .ref (ad 10), .int (nI rn), .ref (ad 12), .ref (ad 13), .ref (ad 14), .ref (ad 15), .ref (ad 16), .ref (ad 17), .ref (ad 18), .ref (ad 19), .ref (ad 20), .ref (ad 21), .int (nI nn), .int (nI m1 - 1)])) from hM.1) rfl 5 (by decide) (hts _ k_448) (fun _ h9 => h9) rfl d_MM_ruleFits_1 ?_
  refine lv_iload_n hx hb d_MM_ruleFits_4 rfl (lv_at hl 1 rfl) ?_
  refine g_zald (v := bI (uLv ru)) hx hb hK.1 hP 1 (show A (26, 0) = some (ad 5, .inl (cZ, 24, .inl (F 5))) from hM.2.1 5 rfl) rfl (vp_in_nI (show r < 24 by omega) (by omega)) (by rw [(nI_clamp (show r < 2 ^ 31 by omega))]; exact hr0.2.2.1) d_MM_ruleFits_5 ?_
  refine lv_if_eq (tgt := 39) hx hb d_MM_ruleFits_6 (by decide) (fun c1 => ?_) (fun c1 => ?_)
  · skip
    rw [bI_0] at c1
    refine lv_iconst (v := 0) hx hb d_MM_ruleFits_39 (by decide) ?_
    exact W.zret hx hb hr rfl (fun t ht _ => ⟨_, rfl, (by first | (simp_all [uAns, bI]; done) | (simp [fitN] at hinv; simp_all [uAns, bI]; done) | (simp_all [fitN, uAns, bI]; done)), ht⟩) (fun _ h => nomatch h) d_MM_ruleFits_40
  · skip
    rw [bI_0] at c1
    refine lv_aload_n hx hb d_MM_ruleFits_9 rfl (lv_at hl 0 rfl) ?_
    refine g_get hx hb hts i_MM hown hK.1 hP (show A (20, 0) = some (h, .inr (5, [.ref (ad 0), .ref (ad 1), .int (nI bn), .ref (ad 3), .ref (ad 4), .ref (ad 5), .ref (ad 6), .ref (ad 7), .ref (ad 8), .ref (ad 9), .ref (ad 10), .int (nI rn), .ref (ad 12), .ref (ad 13), .ref (ad 14), .ref (ad 15), .ref (ad 16), .ref (ad 17), .ref (ad 18), .ref (ad 19), .ref (ad 20), .ref (ad 21), .int (nI nn), .int (nI m1 - 1)])) from hM.1) rfl 3 (by decide) (hts _ k_446) (fun _ h9 => h9) rfl d_MM_ruleFits_10 ?_
    refine lv_iload_n hx hb d_MM_ruleFits_13 rfl (lv_at hl 1 rfl) ?_
    refine g_iald (v := nI (uMk ru)) hx hb hK.1 hP 0 (show A (24, 0) = some (ad 3, .inl (cI, 24, .inl (F 3))) from hM.2.1 3 rfl) rfl (vp_in_nI (show r < 24 by omega) (by omega)) (by rw [(nI_clamp (show r < 2 ^ 31 by omega))]; exact hr0.1) d_MM_ruleFits_14 ?_
    refine lv_aload_n hx hb d_MM_ruleFits_15 rfl (lv_at hl 0 rfl) ?_
    refine g_get hx hb hts i_MM hown hK.1 hP (show A (20, 0) = some (h, .inr (5, [.ref (ad 0), .ref (ad 1), .int (nI bn), .ref (ad 3), .ref (ad 4), .ref (ad 5), .ref (ad 6), .ref (ad 7), .ref (ad 8), .ref (ad 9), .ref (ad 10), .int (nI rn), .ref (ad 12), .ref (ad 13), .ref (ad 14), .ref (ad 15), .ref (ad 16), .ref (ad 17), .ref (ad 18), .ref (ad 19), .ref (ad 20), .ref (ad 21), .int (nI nn), .int (nI m1 - 1)])) from hM.1) rfl 13 (by decide) (hts _ k_456) (fun _ h9 => h9) rfl d_MM_ruleFits_16 ?_
    refine lv_iload_n hx hb d_MM_ruleFits_19 rfl (lv_at hl 2 rfl) ?_
    refine g_iald (v := nI mk) hx hb hK.1 hP 0 (show A (34, 0) = some (ad 13, .inl (cI, 160, .inl (F 13))) from hM.2.1 13 rfl) rfl (vp_in_nI (show i < 160 by omega) (by omega)) (by rw [(nI_clamp (show i < 2 ^ 31 by omega))]; exact e13) d_MM_ruleFits_20 ?_
    refine lv_icmp_ne (tgt := 39) hx hb d_MM_ruleFits_21 (by decide) (fun c2 => ?_) (fun c2 => ?_)
    · skip
      replace c2 : ¬ uMk ru = mk := fun q => c2 ((nI_eq (a := uMk ru) (b := mk) (by omega) (by omega)).mpr q)
      refine lv_iconst (v := 0) hx hb d_MM_ruleFits_39 (by decide) ?_
      exact W.zret hx hb hr rfl (fun t ht _ => ⟨_, rfl, (by first | (simp_all [uAns, bI]; done) | (simp [fitN] at hinv; simp_all [uAns, bI]; done) | (simp_all [fitN, uAns, bI]; done)), ht⟩) (fun _ h => nomatch h) d_MM_ruleFits_40
    · skip
      replace c2 : uMk ru = mk := (nI_eq (a := uMk ru) (b := mk) (by omega) (by omega)).mp c2
      refine lv_aload_n hx hb d_MM_ruleFits_24 rfl (lv_at hl 0 rfl) ?_
      refine g_get hx hb hts i_MM hown hK.1 hP (show A (20, 0) = some (h, .inr (5, [.ref (ad 0), .ref (ad 1), .int (nI bn), .ref (ad 3), .ref (ad 4), .ref (ad 5), .ref (ad 6), .ref (ad 7), .ref (ad 8), .ref (ad 9), .ref (ad 10), .int (nI rn), .ref (ad 12), .ref (ad 13), .ref (ad 14), .ref (ad 15), .ref (ad 16), .ref (ad 17), .ref (ad 18), .ref (ad 19), .ref (ad 20), .ref (ad 21), .int (nI nn), .int (nI m1 - 1)])) from hM.1) rfl 4 (by decide) (hts _ k_447) (fun _ h9 => h9) rfl d_MM_ruleFits_25 ?_
      refine lv_iload_n hx hb d_MM_ruleFits_28 rfl (lv_at hl 1 rfl) ?_
      refine g_iald (v := nI (uMt ru)) hx hb hK.1 hP 0 (show A (25, 0) = some (ad 4, .inl (cI, 24, .inl (F 4))) from hM.2.1 4 rfl) rfl (vp_in_nI (show r < 24 by omega) (by omega)) (by rw [(nI_clamp (show r < 2 ^ 31 by omega))]; exact hr0.2.1) d_MM_ruleFits_29 ?_
      refine lv_aload_n hx hb d_MM_ruleFits_30 rfl (lv_at hl 0 rfl) ?_
      refine g_get hx hb hts i_MM hown hK.1 hP (show A (20, 0) = some (h, .inr (5, [.ref (ad 0), .ref (ad 1), .int (nI bn), .ref (ad 3), .ref (ad 4), .ref (ad 5), .ref (ad 6), .ref (ad 7), .ref (ad 8), .ref (ad 9), .ref (ad 10), .int (nI rn), .ref (ad 12), .ref (ad 13), .ref (ad 14), .ref (ad 15), .ref (ad 16), .ref (ad 17), .ref (ad 18), .ref (ad 19), .ref (ad 20), .ref (ad 21), .int (nI nn), .int (nI m1 - 1)])) from hM.1) rfl 14 (by decide) (hts _ k_457) (fun _ h9 => h9) rfl d_MM_ruleFits_31 ?_
      refine lv_iload_n hx hb d_MM_ruleFits_34 rfl (lv_at hl 2 rfl) ?_
      refine g_iald (v := nI mt) hx hb hK.1 hP 0 (show A (35, 0) = some (ad 14, .inl (cI, 160, .inl (F 14))) from hM.2.1 14 rfl) rfl (vp_in_nI (show i < 160 by omega) (by omega)) (by rw [(nI_clamp (show i < 2 ^ 31 by omega))]; exact e14) d_MM_ruleFits_35 ?_
      refine lv_icmp_eq (tgt := 41) hx hb d_MM_ruleFits_36 (by decide) (fun c3 => ?_) (fun c3 => ?_)
      · skip
        replace c3 : uMt ru = mt := (nI_eq (a := uMt ru) (b := mt) (by omega) (by omega)).mp c3
        refine lv_iconst (v := 0) hx hb d_MM_ruleFits_41 (by decide) ?_
        refine lv_istore_n (lv' := [(3, .int 0), (0, .ref h), (1, .int (nI r)), (2, .int (nI i))]) hx hb d_MM_ruleFits_42 rfl hl (by decide) rfl (fun ls hl => ?_)
        obtain ⟨q, hq0⟩ : ∃ z : Nat, z = 0 := ⟨_, rfl⟩
        obtain ⟨n, hn⟩ : ∃ z : Nat, q + z = (uMt ru) % 4 := ⟨(uMt ru) % 4 - q, by omega⟩
        replace hl : lv_has ls 4 [(3, .int (nI q)), (0, .ref h), (1, .int (nI r)), (2, .int (nI i))] := by rw [hq0, nI_0]; exact hl
        have hinv : fitN (uMs ru) x n q = fitA (uMs ru) x := by subst hq0; rw [Nat.zero_add] at hn; rw [hn, ← w4]; rfl
        clear hq0
        induction n generalizing q ls with
        | zero =>
          refine lv_iload_n hx hb d_MM_ruleFits_43 rfl (lv_at hl 0 rfl) ?_
          refine lv_aload_n hx hb d_MM_ruleFits_44 rfl (lv_at hl 1 rfl) ?_
          refine g_get hx hb hts i_MM hown hK.1 hP (show A (20, 0) = some (h, .inr (5, [.ref (ad 0), .ref (ad 1), .int (nI bn), .ref (ad 3), .ref (ad 4), .ref (ad 5), .ref (ad 6), .ref (ad 7), .ref (ad 8), .ref (ad 9), .ref (ad 10), .int (nI rn), .ref (ad 12), .ref (ad 13), .ref (ad 14), .ref (ad 15), .ref (ad 16), .ref (ad 17), .ref (ad 18), .ref (ad 19), .ref (ad 20), .ref (ad 21), .int (nI nn), .int (nI m1 - 1)])) from hM.1) rfl 4 (by decide) (hts _ k_447) (fun _ h9 => h9) rfl d_MM_ruleFits_45 ?_
          refine lv_iload_n hx hb d_MM_ruleFits_48 rfl (lv_at hl 2 rfl) ?_
          refine g_iald (v := nI (uMt ru)) hx hb hK.1 hP 0 (show A (25, 0) = some (ad 4, .inl (cI, 24, .inl (F 4))) from hM.2.1 4 rfl) rfl (vp_in_nI (show r < 24 by omega) (by omega)) (by rw [(nI_clamp (show r < 2 ^ 31 by omega))]; exact hr0.2.1) d_MM_ruleFits_49 ?_
          refine lv_iconst (v := 4) hx hb d_MM_ruleFits_50 (by decide) ?_
          refine lv_irem hx hb d_MM_ruleFits_51 (by decide) ?_
          rw [rem4 (show uMt ru < 2 ^ 31 by omega)]
          refine lv_icmp_ge (tgt := 99) hx hb d_MM_ruleFits_52 (by decide) (fun _ => ?_) (fun h9 => absurd (nI_le (show (uMt ru) % 4 ≤ q by omega) (by omega)) h9)
          refine lv_iconst (v := 1) hx hb d_MM_ruleFits_99 (by decide) ?_
          exact W.zret hx hb hr rfl (fun t ht _ => ⟨_, rfl, (by first | (simp_all [uAns, bI]; done) | (simp [fitN] at hinv; simp_all [uAns, bI]; done) | (simp_all [fitN, uAns, bI]; done)), ht⟩) (fun _ h => nomatch h) d_MM_ruleFits_100
        | succ n ih =>
          refine lv_iload_n hx hb d_MM_ruleFits_43 rfl (lv_at hl 0 rfl) ?_
          refine lv_aload_n hx hb d_MM_ruleFits_44 rfl (lv_at hl 1 rfl) ?_
          refine g_get hx hb hts i_MM hown hK.1 hP (show A (20, 0) = some (h, .inr (5, [.ref (ad 0), .ref (ad 1), .int (nI bn), .ref (ad 3), .ref (ad 4), .ref (ad 5), .ref (ad 6), .ref (ad 7), .ref (ad 8), .ref (ad 9), .ref (ad 10), .int (nI rn), .ref (ad 12), .ref (ad 13), .ref (ad 14), .ref (ad 15), .ref (ad 16), .ref (ad 17), .ref (ad 18), .ref (ad 19), .ref (ad 20), .ref (ad 21), .int (nI nn), .int (nI m1 - 1)])) from hM.1) rfl 4 (by decide) (hts _ k_447) (fun _ h9 => h9) rfl d_MM_ruleFits_45 ?_
          refine lv_iload_n hx hb d_MM_ruleFits_48 rfl (lv_at hl 2 rfl) ?_
          refine g_iald (v := nI (uMt ru)) hx hb hK.1 hP 0 (show A (25, 0) = some (ad 4, .inl (cI, 24, .inl (F 4))) from hM.2.1 4 rfl) rfl (vp_in_nI (show r < 24 by omega) (by omega)) (by rw [(nI_clamp (show r < 2 ^ 31 by omega))]; exact hr0.2.1) d_MM_ruleFits_49 ?_
          refine lv_iconst (v := 4) hx hb d_MM_ruleFits_50 (by decide) ?_
          refine lv_irem hx hb d_MM_ruleFits_51 (by decide) ?_
          rw [rem4 (show uMt ru < 2 ^ 31 by omega)]
          refine lv_icmp_ge (tgt := 99) hx hb d_MM_ruleFits_52 (by decide) (fun h9 => absurd h9 (nI_ge (show q < (uMt ru) % 4 by omega) (by omega))) (fun _ => ?_)
          refine lv_aload_n hx hb d_MM_ruleFits_55 rfl (lv_at hl 1 rfl) ?_
          refine g_get hx hb hts i_MM hown hK.1 hP (show A (20, 0) = some (h, .inr (5, [.ref (ad 0), .ref (ad 1), .int (nI bn), .ref (ad 3), .ref (ad 4), .ref (ad 5), .ref (ad 6), .ref (ad 7), .ref (ad 8), .ref (ad 9), .ref (ad 10), .int (nI rn), .ref (ad 12), .ref (ad 13), .ref (ad 14), .ref (ad 15), .ref (ad 16), .ref (ad 17), .ref (ad 18), .ref (ad 19), .ref (ad 20), .ref (ad 21), .int (nI nn), .int (nI m1 - 1)])) from hM.1) rfl 6 (by decide) (hts _ k_449) (fun _ h9 => h9) rfl d_MM_ruleFits_56 ?_
          refine lv_iconst (v := 3) hx hb d_MM_ruleFits_59 (by decide) ?_
          refine lv_iload_n hx hb d_MM_ruleFits_60 rfl (lv_at hl 2 rfl) ?_
          refine lv_imul hx hb d_MM_ruleFits_61 ?_
          rw [mul3 _]
          refine lv_iload_n hx hb d_MM_ruleFits_62 rfl (lv_at hl 0 rfl) ?_
          refine lv_iadd hx hb d_MM_ruleFits_63 ?_
          rw [nI_add _ _]
          refine g_iald (v := ((uMs ru).getD q (0, 0)).1) hx hb hK.1 hP 0 (show A (27, 0) = some (ad 6, .inl (cI, 72, .inl (F 6))) from hM.2.1 6 rfl) rfl (vp_in_nI (show 3 * r + q < 72 by omega) (by omega)) (by rw [(nI_clamp (show 3 * r + q < 2 ^ 31 by omega))]; exact (hr0.2.2.2.2.1 q (by omega)).1) d_MM_ruleFits_64 ?_
          refine lv_aload_n hx hb d_MM_ruleFits_65 rfl (lv_at hl 1 rfl) ?_
          refine g_get hx hb hts i_MM hown hK.1 hP (show A (20, 0) = some (h, .inr (5, [.ref (ad 0), .ref (ad 1), .int (nI bn), .ref (ad 3), .ref (ad 4), .ref (ad 5), .ref (ad 6), .ref (ad 7), .ref (ad 8), .ref (ad 9), .ref (ad 10), .int (nI rn), .ref (ad 12), .ref (ad 13), .ref (ad 14), .ref (ad 15), .ref (ad 16), .ref (ad 17), .ref (ad 18), .ref (ad 19), .ref (ad 20), .ref (ad 21), .int (nI nn), .int (nI m1 - 1)])) from hM.1) rfl 7 (by decide) (hts _ k_450) (fun _ h9 => h9) rfl d_MM_ruleFits_66 ?_
          refine lv_iconst (v := 3) hx hb d_MM_ruleFits_69 (by decide) ?_
          refine lv_iload_n hx hb d_MM_ruleFits_70 rfl (lv_at hl 2 rfl) ?_
          refine lv_imul hx hb d_MM_ruleFits_71 ?_
          rw [mul3 _]
          refine lv_iload_n hx hb d_MM_ruleFits_72 rfl (lv_at hl 0 rfl) ?_
          refine lv_iadd hx hb d_MM_ruleFits_73 ?_
          rw [nI_add _ _]
          refine g_iald (v := ((uMs ru).getD q (0, 0)).2) hx hb hK.1 hP 0 (show A (28, 0) = some (ad 7, .inl (cI, 72, .inl (F 7))) from hM.2.1 7 rfl) rfl (vp_in_nI (show 3 * r + q < 72 by omega) (by omega)) (by rw [(nI_clamp (show 3 * r + q < 2 ^ 31 by omega))]; exact (hr0.2.2.2.2.1 q (by omega)).2) d_MM_ruleFits_74 ?_
          refine lv_aload_n hx hb d_MM_ruleFits_75 rfl (lv_at hl 1 rfl) ?_
          refine g_get hx hb hts i_MM hown hK.1 hP (show A (20, 0) = some (h, .inr (5, [.ref (ad 0), .ref (ad 1), .int (nI bn), .ref (ad 3), .ref (ad 4), .ref (ad 5), .ref (ad 6), .ref (ad 7), .ref (ad 8), .ref (ad 9), .ref (ad 10), .int (nI rn), .ref (ad 12), .ref (ad 13), .ref (ad 14), .ref (ad 15), .ref (ad 16), .ref (ad 17), .ref (ad 18), .ref (ad 19), .ref (ad 20), .ref (ad 21), .int (nI nn), .int (nI m1 - 1)])) from hM.1) rfl 15 (by decide) (hts _ k_458) (fun _ h9 => h9) rfl d_MM_ruleFits_76 ?_
          refine lv_iconst (v := 3) hx hb d_MM_ruleFits_79 (by decide) ?_
          refine lv_iload_n hx hb d_MM_ruleFits_80 rfl (lv_at hl 3 rfl) ?_
          refine lv_imul hx hb d_MM_ruleFits_81 ?_
          rw [mul3 _]
          refine lv_iload_n hx hb d_MM_ruleFits_82 rfl (lv_at hl 0 rfl) ?_
          refine lv_iadd hx hb d_MM_ruleFits_83 ?_
          rw [nI_add _ _]
          refine g_iald (v := argP x (nI q)) hx hb hK.1 hP 0 (show A (36, 0) = some (ad 15, .inl (cI, 480, .inl (F 15))) from hM.2.1 15 rfl) rfl (vp_in_nI (show 3 * i + q < 480 by omega) (by omega)) (by rw [(nI_clamp (show 3 * i + q < 2 ^ 31 by omega))]; exact e15 q (by omega)) d_MM_ruleFits_84 ?_
          refine g_ri (g_runS (As := [.int (((uMs ru).getD q (0, 0)).1), .int (((uMs ru).getD q (0, 0)).2), .int (argP x (nI q))]) (rest := []) ⟨hx, hb, hml, hown, hts⟩ (c_MM_fits l (k := (((uMs ru).getD q (0, 0)).1)) (w7 q (by omega)) (((uMs ru).getD q (0, 0)).2) (argP x (nI q))) st_MM_fits k_557 ⟨rfl, rfl, by decide, by decide⟩ (gT_pre _) rfl hl.1 rfl (Nat.le_of_ble_eq_true rfl) d_MM_ruleFits_85 ⟨by decide, by decide⟩) (fun r6 hr6 => ?_)
          subst hr6
          refine lv_if_ne (tgt := 93) hx hb d_MM_ruleFits_88 (by decide) (fun c7 => ?_) (fun c7 => ?_)
          · skip
            rw [bI_0] at c7
            refine lv_iinc (v := nI (q + 1)) (lv' := [(3, .int (nI (q + 1))), (0, .ref h), (1, .int (nI r)), (2, .int (nI i))]) hx hb d_MM_ruleFits_93 hl (k := 0) rfl (nI_1 _) (by decide) rfl (fun ls hl => ?_)
            refine lv_goto (tgt := 43) hx hb d_MM_ruleFits_96 (by decide) ?_
            exact ih _ _ (by omega) (lv_sub hl [0, 1, 2, 3] rfl) (by simp_all [fitN, bI_0])
          · skip
            rw [bI_0] at c7
            refine lv_iconst (v := 0) hx hb d_MM_ruleFits_91 (by decide) ?_
            exact W.zret hx hb hr rfl (fun t ht _ => ⟨_, rfl, (by first | (simp_all [uAns, bI]; done) | (simp [fitN] at hinv; simp_all [uAns, bI]; done) | (simp_all [fitN, uAns, bI]; done)), ht⟩) (fun _ h => nomatch h) d_MM_ruleFits_92
      · skip
        replace c3 : ¬ uMt ru = mt := fun q => c3 ((nI_eq (a := uMt ru) (b := mt) (by omega) (by omega)).mpr q)
        refine lv_iconst (v := 0) hx hb d_MM_ruleFits_39 (by decide) ?_
        exact W.zret hx hb hr rfl (fun t ht _ => ⟨_, rfl, (by first | (simp_all [uAns, bI]; done) | (simp [fitN] at hinv; simp_all [uAns, bI]; done) | (simp_all [fitN, uAns, bI]; done)), ht⟩) (fun _ h => nomatch h) d_MM_ruleFits_40
set_option maxHeartbeats 4000000 in
set_option maxRecDepth 100000 in
theorem c_MM_asked (l : Launch) {D : va_G} {cI cZ cO cL : ClassId} {b e0 : Nat} {A : gW} {h : Nat} {ad : Nat → Nat} {F : Nat → Nat → Int32} {G : Nat → Int64} {bu : List Pr} {rn nn m1 : Nat} (hM : rMM cI cZ cL A h ad F G bu.length rn nn m1) {i : Nat} {t : It} (hi160 : i < 160) (hi : mIn F i t) (b3 : iMk t < 4) (b4 : iMt t < 8) {mk mt : Nat} (b1 : mk < 4) (b2 : mt < 8) (hn3 : bu.length ≤ 3) (hbu : ∀ j, j < bu.length → F 0 j = (bu.getD j (0, 0)).1 ∧ F 1 j = (bu.getD j (0, 0)).2) (hk : ∀ j, j < bu.length → inR (bu.getD j (0, 0)).1 0 5 = true) : Met l y_MM_asked (Cond.code y_MM_asked b_MM_asked 5 (some .boolean) :: TT) ({ frames := 1, cells := 0, slots := 0, locals := 22 }) (va_Pc [.ref h, .int (nI i), .int (nI mk), .int (nI mt)] (gI D [(cI, .int), (cZ, .boolean), (cO, .object "java/lang/Object"), (cL, .long)] b e0 A)) (vp_Si (fun z => z = bI (iAsk bu mk mt t))) 0 0 (fun _ => False) := by
  refine Met.ofG (own := R_MM) (by decide +kernel) rfl (Nat.le_of_ble_eq_true rfl) ?_
  intro p e s m below meth c ls hx hb hr hlk hml hown hnm hts hI hl
  have hl : lv_has ls 5 [(0, .ref h), (1, .int (nI i)), (2, .int (nI mk)), (3, .int (nI mt))] := hl
  obtain ⟨hP, hK⟩ := hI
  refine lv_aload_n hx hb d_MM_asked_0 rfl (lv_at hl 0 rfl) ?_
  refine g_get hx hb hts i_MM hown hK.1 hP (show A (20, 0) = some (h, .inr (5, [.ref (ad 0), .ref (ad 1), .int (nI bu.length), .ref (ad 3), .ref (ad 4), .ref (ad 5), .ref (ad 6), .ref (ad 7), .ref (ad 8), .ref (ad 9), .ref (ad 10), .int (nI rn), .ref (ad 12), .ref (ad 13), .ref (ad 14), .ref (ad 15), .ref (ad 16), .ref (ad 17), .ref (ad 18), .ref (ad 19), .ref (ad 20), .ref (ad 21), .int (nI nn), .int (nI m1 - 1)])) from hM.1) rfl 20 (by decide) (hts _ k_463) (fun _ h9 => h9) rfl d_MM_asked_1 ?_
  refine lv_iload_n hx hb d_MM_asked_4 rfl (lv_at hl 1 rfl) ?_
  refine g_zald (v := bI (iLv t)) hx hb hK.1 hP 1 (show A (41, 0) = some (ad 20, .inl (cZ, 160, .inl (F 20))) from hM.2.1 20 rfl) rfl (vp_in_nI (show i < 160 by omega) (by omega)) (by rw [(nI_clamp (show i < 2 ^ 31 by omega))]; exact hi.2.2.2.2.2.2.1) d_MM_asked_5 ?_
  refine lv_if_eq (tgt := 29) hx hb d_MM_asked_6 (by decide) (fun c1 => ?_) (fun c1 => ?_)
  · skip
    rw [bI_0] at c1
    refine lv_iconst (v := 0) hx hb d_MM_asked_29 (by decide) ?_
    exact W.zret hx hb hr rfl (fun t ht _ => ⟨_, rfl, (by first | (simp_all [iAsk, bI]; done) | (simp [fitN] at hinv; simp_all [iAsk, bI]; done) | (simp_all [fitN, iAsk, bI]; done)), ht⟩) (fun _ h => nomatch h) d_MM_asked_30
  · skip
    rw [bI_0] at c1
    refine lv_aload_n hx hb d_MM_asked_9 rfl (lv_at hl 0 rfl) ?_
    refine g_get hx hb hts i_MM hown hK.1 hP (show A (20, 0) = some (h, .inr (5, [.ref (ad 0), .ref (ad 1), .int (nI bu.length), .ref (ad 3), .ref (ad 4), .ref (ad 5), .ref (ad 6), .ref (ad 7), .ref (ad 8), .ref (ad 9), .ref (ad 10), .int (nI rn), .ref (ad 12), .ref (ad 13), .ref (ad 14), .ref (ad 15), .ref (ad 16), .ref (ad 17), .ref (ad 18), .ref (ad 19), .ref (ad 20), .ref (ad 21), .int (nI nn), .int (nI m1 - 1)])) from hM.1) rfl 13 (by decide) (hts _ k_456) (fun _ h9 => h9) rfl d_MM_asked_10 ?_
    refine lv_iload_n hx hb d_MM_asked_13 rfl (lv_at hl 1 rfl) ?_
    refine g_iald (v := nI (iMk t)) hx hb hK.1 hP 0 (show A (34, 0) = some (ad 13, .inl (cI, 160, .inl (F 13))) from hM.2.1 13 rfl) rfl (vp_in_nI (show i < 160 by omega) (by omega)) (by rw [(nI_clamp (show i < 2 ^ 31 by omega))]; exact hi.1) d_MM_asked_14 ?_
    refine lv_iload_n hx hb d_MM_asked_15 rfl (lv_at hl 2 rfl) ?_
    refine lv_icmp_ne (tgt := 29) hx hb d_MM_asked_16 (by decide) (fun c2 => ?_) (fun c2 => ?_)
    · skip
      replace c2 : ¬ iMk t = mk := fun q => c2 ((nI_eq (a := iMk t) (b := mk) (by omega) (by omega)).mpr q)
      refine lv_iconst (v := 0) hx hb d_MM_asked_29 (by decide) ?_
      exact W.zret hx hb hr rfl (fun t ht _ => ⟨_, rfl, (by first | (simp_all [iAsk, bI]; done) | (simp [fitN] at hinv; simp_all [iAsk, bI]; done) | (simp_all [fitN, iAsk, bI]; done)), ht⟩) (fun _ h => nomatch h) d_MM_asked_30
    · skip
      replace c2 : iMk t = mk := (nI_eq (a := iMk t) (b := mk) (by omega) (by omega)).mp c2
      refine lv_aload_n hx hb d_MM_asked_19 rfl (lv_at hl 0 rfl) ?_
      refine g_get hx hb hts i_MM hown hK.1 hP (show A (20, 0) = some (h, .inr (5, [.ref (ad 0), .ref (ad 1), .int (nI bu.length), .ref (ad 3), .ref (ad 4), .ref (ad 5), .ref (ad 6), .ref (ad 7), .ref (ad 8), .ref (ad 9), .ref (ad 10), .int (nI rn), .ref (ad 12), .ref (ad 13), .ref (ad 14), .ref (ad 15), .ref (ad 16), .ref (ad 17), .ref (ad 18), .ref (ad 19), .ref (ad 20), .ref (ad 21), .int (nI nn), .int (nI m1 - 1)])) from hM.1) rfl 14 (by decide) (hts _ k_457) (fun _ h9 => h9) rfl d_MM_asked_20 ?_
      refine lv_iload_n hx hb d_MM_asked_23 rfl (lv_at hl 1 rfl) ?_
      refine g_iald (v := nI (iMt t)) hx hb hK.1 hP 0 (show A (35, 0) = some (ad 14, .inl (cI, 160, .inl (F 14))) from hM.2.1 14 rfl) rfl (vp_in_nI (show i < 160 by omega) (by omega)) (by rw [(nI_clamp (show i < 2 ^ 31 by omega))]; exact hi.2.1) d_MM_asked_24 ?_
      refine lv_iload_n hx hb d_MM_asked_25 rfl (lv_at hl 3 rfl) ?_
      refine lv_icmp_eq (tgt := 31) hx hb d_MM_asked_26 (by decide) (fun c3 => ?_) (fun c3 => ?_)
      · skip
        replace c3 : iMt t = mt := (nI_eq (a := iMt t) (b := mt) (by omega) (by omega)).mp c3
        refine lv_iconst (v := 0) hx hb d_MM_asked_31 (by decide) ?_
        refine lv_istore (lv' := [(4, .int 0), (0, .ref h), (1, .int (nI i)), (2, .int (nI mk)), (3, .int (nI mt))]) hx hb d_MM_asked_32 hl (by decide) rfl (fun ls hl => ?_)
        obtain ⟨q, hq0⟩ : ∃ z : Nat, z = 0 := ⟨_, rfl⟩
        obtain ⟨n, hn⟩ : ∃ z : Nat, q + z = bu.length := ⟨bu.length - q, by omega⟩
        replace hl : lv_has ls 5 [(4, .int (nI q)), (0, .ref h), (1, .int (nI i)), (2, .int (nI mk)), (3, .int (nI mt))] := by rw [hq0, nI_0]; exact hl
        have hinv : fitN bu (iX t) n q = fitA bu (iX t) := by subst hq0; rw [Nat.zero_add] at hn; rw [hn]; rfl
        clear hq0
        induction n generalizing q ls with
        | zero =>
          refine lv_iload hx hb d_MM_asked_34 (lv_at hl 0 rfl) ?_
          refine lv_aload_n hx hb d_MM_asked_36 rfl (lv_at hl 1 rfl) ?_
          refine g_get hx hb hts i_MM hown hK.1 hP (show A (20, 0) = some (h, .inr (5, [.ref (ad 0), .ref (ad 1), .int (nI bu.length), .ref (ad 3), .ref (ad 4), .ref (ad 5), .ref (ad 6), .ref (ad 7), .ref (ad 8), .ref (ad 9), .ref (ad 10), .int (nI rn), .ref (ad 12), .ref (ad 13), .ref (ad 14), .ref (ad 15), .ref (ad 16), .ref (ad 17), .ref (ad 18), .ref (ad 19), .ref (ad 20), .ref (ad 21), .int (nI nn), .int (nI m1 - 1)])) from hM.1) rfl 2 (by decide) (hts _ k_445) (fun _ h9 => h9) rfl d_MM_asked_37 ?_
          refine lv_icmp_ge (tgt := 82) hx hb d_MM_asked_40 (by decide) (fun _ => ?_) (fun h9 => absurd (nI_le (show bu.length ≤ q by omega) (by omega)) h9)
          refine lv_iconst (v := 1) hx hb d_MM_asked_82 (by decide) ?_
          exact W.zret hx hb hr rfl (fun t ht _ => ⟨_, rfl, (by first | (simp_all [iAsk, bI]; done) | (simp [fitN] at hinv; simp_all [iAsk, bI]; done) | (simp_all [fitN, iAsk, bI]; done)), ht⟩) (fun _ h => nomatch h) d_MM_asked_83
        | succ n ih =>
          refine lv_iload hx hb d_MM_asked_34 (lv_at hl 0 rfl) ?_
          refine lv_aload_n hx hb d_MM_asked_36 rfl (lv_at hl 1 rfl) ?_
          refine g_get hx hb hts i_MM hown hK.1 hP (show A (20, 0) = some (h, .inr (5, [.ref (ad 0), .ref (ad 1), .int (nI bu.length), .ref (ad 3), .ref (ad 4), .ref (ad 5), .ref (ad 6), .ref (ad 7), .ref (ad 8), .ref (ad 9), .ref (ad 10), .int (nI rn), .ref (ad 12), .ref (ad 13), .ref (ad 14), .ref (ad 15), .ref (ad 16), .ref (ad 17), .ref (ad 18), .ref (ad 19), .ref (ad 20), .ref (ad 21), .int (nI nn), .int (nI m1 - 1)])) from hM.1) rfl 2 (by decide) (hts _ k_445) (fun _ h9 => h9) rfl d_MM_asked_37 ?_
          refine lv_icmp_ge (tgt := 82) hx hb d_MM_asked_40 (by decide) (fun h9 => absurd h9 (nI_ge (show q < bu.length by omega) (by omega))) (fun _ => ?_)
          refine lv_aload_n hx hb d_MM_asked_43 rfl (lv_at hl 1 rfl) ?_
          refine g_get hx hb hts i_MM hown hK.1 hP (show A (20, 0) = some (h, .inr (5, [.ref (ad 0), .ref (ad 1), .int (nI bu.length), .ref (ad 3), .ref (ad 4), .ref (ad 5), .ref (ad 6), .ref (ad 7), .ref (ad 8), .ref (ad 9), .ref (ad 10), .int (nI rn), .ref (ad 12), .ref (ad 13), .ref (ad 14), .ref (ad 15), .ref (ad 16), .ref (ad 17), .ref (ad 18), .ref (ad 19), .ref (ad 20), .ref (ad 21), .int (nI nn), .int (nI m1 - 1)])) from hM.1) rfl 0 (by decide) (hts _ k_443) (fun _ h9 => h9) rfl d_MM_asked_44 ?_
          refine lv_iload hx hb d_MM_asked_47 (lv_at hl 0 rfl) ?_
          refine g_iald (v := (bu.getD q (0, 0)).1) hx hb hK.1 hP 0 (show A (21, 0) = some (ad 0, .inl (cI, 3, .inl (F 0))) from hM.2.1 0 rfl) rfl (vp_in_nI (show q < 3 by omega) (by omega)) (by rw [(nI_clamp (show q < 2 ^ 31 by omega))]; exact (hbu q (by omega)).1) d_MM_asked_49 ?_
          refine lv_aload_n hx hb d_MM_asked_50 rfl (lv_at hl 1 rfl) ?_
          refine g_get hx hb hts i_MM hown hK.1 hP (show A (20, 0) = some (h, .inr (5, [.ref (ad 0), .ref (ad 1), .int (nI bu.length), .ref (ad 3), .ref (ad 4), .ref (ad 5), .ref (ad 6), .ref (ad 7), .ref (ad 8), .ref (ad 9), .ref (ad 10), .int (nI rn), .ref (ad 12), .ref (ad 13), .ref (ad 14), .ref (ad 15), .ref (ad 16), .ref (ad 17), .ref (ad 18), .ref (ad 19), .ref (ad 20), .ref (ad 21), .int (nI nn), .int (nI m1 - 1)])) from hM.1) rfl 1 (by decide) (hts _ k_444) (fun _ h9 => h9) rfl d_MM_asked_51 ?_
          refine lv_iload hx hb d_MM_asked_54 (lv_at hl 0 rfl) ?_
          refine g_iald (v := (bu.getD q (0, 0)).2) hx hb hK.1 hP 0 (show A (22, 0) = some (ad 1, .inl (cI, 3, .inl (F 1))) from hM.2.1 1 rfl) rfl (vp_in_nI (show q < 3 by omega) (by omega)) (by rw [(nI_clamp (show q < 2 ^ 31 by omega))]; exact (hbu q (by omega)).2) d_MM_asked_56 ?_
          refine lv_aload_n hx hb d_MM_asked_57 rfl (lv_at hl 1 rfl) ?_
          refine g_get hx hb hts i_MM hown hK.1 hP (show A (20, 0) = some (h, .inr (5, [.ref (ad 0), .ref (ad 1), .int (nI bu.length), .ref (ad 3), .ref (ad 4), .ref (ad 5), .ref (ad 6), .ref (ad 7), .ref (ad 8), .ref (ad 9), .ref (ad 10), .int (nI rn), .ref (ad 12), .ref (ad 13), .ref (ad 14), .ref (ad 15), .ref (ad 16), .ref (ad 17), .ref (ad 18), .ref (ad 19), .ref (ad 20), .ref (ad 21), .int (nI nn), .int (nI m1 - 1)])) from hM.1) rfl 15 (by decide) (hts _ k_458) (fun _ h9 => h9) rfl d_MM_asked_58 ?_
          refine lv_iconst (v := 3) hx hb d_MM_asked_61 (by decide) ?_
          refine lv_iload_n hx hb d_MM_asked_62 rfl (lv_at hl 2 rfl) ?_
          refine lv_imul hx hb d_MM_asked_63 ?_
          rw [mul3 _]
          refine lv_iload hx hb d_MM_asked_64 (lv_at hl 0 rfl) ?_
          refine lv_iadd hx hb d_MM_asked_66 ?_
          rw [nI_add _ _]
          refine g_iald (v := argP (iX t) (nI q)) hx hb hK.1 hP 0 (show A (36, 0) = some (ad 15, .inl (cI, 480, .inl (F 15))) from hM.2.1 15 rfl) rfl (vp_in_nI (show 3 * i + q < 480 by omega) (by omega)) (by rw [(nI_clamp (show 3 * i + q < 2 ^ 31 by omega))]; exact hi.2.2.1 q (by omega)) d_MM_asked_67 ?_
          refine g_ri (g_runS (As := [.int ((bu.getD q (0, 0)).1), .int ((bu.getD q (0, 0)).2), .int (argP (iX t) (nI q))]) (rest := []) ⟨hx, hb, hml, hown, hts⟩ (c_MM_fits l (k := ((bu.getD q (0, 0)).1)) (hk q (by omega)) ((bu.getD q (0, 0)).2) (argP (iX t) (nI q))) st_MM_fits k_557 ⟨rfl, rfl, by decide, by decide⟩ (gT_pre _) rfl hl.1 rfl (Nat.le_of_ble_eq_true rfl) d_MM_asked_68 ⟨by decide, by decide⟩) (fun r6 hr6 => ?_)
          subst hr6
          refine lv_if_ne (tgt := 76) hx hb d_MM_asked_71 (by decide) (fun c7 => ?_) (fun c7 => ?_)
          · skip
            rw [bI_0] at c7
            refine lv_iinc (v := nI (q + 1)) (lv' := [(4, .int (nI (q + 1))), (0, .ref h), (1, .int (nI i)), (2, .int (nI mk)), (3, .int (nI mt))]) hx hb d_MM_asked_76 hl (k := 0) rfl (nI_1 _) (by decide) rfl (fun ls hl => ?_)
            refine lv_goto (tgt := 34) hx hb d_MM_asked_79 (by decide) ?_
            exact ih _ _ (by omega) (lv_sub hl [0, 1, 2, 3, 4] rfl) (by simp_all [fitN, bI_0])
          · skip
            rw [bI_0] at c7
            refine lv_iconst (v := 0) hx hb d_MM_asked_74 (by decide) ?_
            exact W.zret hx hb hr rfl (fun t ht _ => ⟨_, rfl, (by first | (simp_all [iAsk, bI]; done) | (simp [fitN] at hinv; simp_all [iAsk, bI]; done) | (simp_all [fitN, iAsk, bI]; done)), ht⟩) (fun _ h => nomatch h) d_MM_asked_75
      · skip
        replace c3 : ¬ iMt t = mt := fun q => c3 ((nI_eq (a := iMt t) (b := mt) (by omega) (by omega)).mpr q)
        refine lv_iconst (v := 0) hx hb d_MM_asked_29 (by decide) ?_
        exact W.zret hx hb hr rfl (fun t ht _ => ⟨_, rfl, (by first | (simp_all [iAsk, bI]; done) | (simp [fitN] at hinv; simp_all [iAsk, bI]; done) | (simp_all [fitN, iAsk, bI]; done)), ht⟩) (fun _ h => nomatch h) d_MM_asked_30
theorem c_MM_usesW (l : Launch) {D : va_G} {cI cZ cO cL : ClassId} {b e0 : Nat} {A : gW} {h : Nat} {ad : Nat → Nat} {F : Nat → Nat → Int32} {G : Nat → Int64} {σ : Bk} {bn m1 gn : Nat} (hM : rMM cI cZ cL A h ad F G bn (kRs σ).length (kIs σ).length m1) (hR : mRep F G σ gn) (hw : wf σ) {r : Nat} (hr0 : r < (kRs σ).length) : Met l y_MM_uses (Cond.code y_MM_uses b_MM_uses 5 (some .int) :: TT) ({ frames := 0, cells := 0, slots := 0, locals := 0 }) (va_Pc [.ref h, .int (nI r), .int (nI (kIs σ).length)] (gI D [(cI, .int), (cZ, .boolean), (cO, .object "java/lang/Object"), (cL, .long)] b e0 A)) (vp_Si (fun z => z = nI (uUs ((kRs σ).getD r u0)))) 0 0 (fun _ => False) := by
  have w1 := hw.1
  have h := c_MM_uses (e0 := e0) (D := D) (cO := cO) (b := b) l hM (a := fun k => iRu ((kIs σ).getD k i0)) (ruLe hw) hw.2.1 (show r < 24 by omega) (fun k hk => (hR.2.2.2.2.1 k hk).2.2.2.2.2.1)
  rw [hw.2.2.2.2.2.2.2 r hr0]
  exact h
set_option maxHeartbeats 4000000 in
set_option maxRecDepth 100000 in
theorem c_MM_open (l : Launch) {D : va_G} {cI cZ cO cL : ClassId} {b e0 : Nat} {A : gW} {h : Nat} {σ : Bk} (hB : rMo cI cZ cL A h σ) (hw : wf σ) (x : Int32) : Met l y_MM_open (Cond.code y_MM_open b_MM_open 3 (some .int) :: TT) ({ frames := 0, cells := 0, slots := 0, locals := 0 }) (va_Pc [.ref h, .int x] (gI D [(cI, .int), (cZ, .boolean), (cO, .object "java/lang/Object"), (cL, .long)] b e0 A)) (vp_Si (fun y => y = sOpen σ x)) 0 0 (fun _ => False) := by
  refine Met.ofG (own := R_MM) (by decide +kernel) rfl (Nat.le_of_ble_eq_true rfl) ?_
  intro p e s m below meth c ls hx hb hr hlk hml hown hnm hts hI hl
  have hl : lv_has ls 3 [(0, .ref h), (1, .int x)] := hl
  obtain ⟨hP, hK⟩ := hI
  obtain ⟨ad, F, G, hM, hR⟩ := id hB
  obtain ⟨hb0, hru, hrz, hst, hit, hiz, hgn⟩ := id hR
  obtain ⟨w1, w2, w3, w4, w5, w6, w7, w8⟩ := id hw
  refine lv_iload_n hx hb d_MM_open_0 rfl (lv_at hl 1 rfl) ?_
  refine lv_if_lt (tgt := 9) hx hb d_MM_open_1 (by decide) (fun c1 => ?_) (fun c1 => ?_)
  · skip
    refine lv_iconst (v := (-1)) hx hb d_MM_open_9 (by decide) ?_
    exact W.iret hx hb hr (fun t ht _ => ⟨_, rfl, (by first | (rw [← hinv]; rfl) | (rw [← hinv]; simp_all [fst', qOpen]; done) | (simp_all [sOpen, inR, ← Int32.not_lt]; done)), ht⟩) (fun _ h => nomatch h) d_MM_open_10
  · skip
    refine lv_iload_n hx hb d_MM_open_4 rfl (lv_at hl 1 rfl) ?_
    refine lv_iconst (v := 3) hx hb d_MM_open_5 (by decide) ?_
    refine lv_icmp_le (tgt := 11) hx hb d_MM_open_6 (by decide) (fun c2 => ?_) (fun c2 => ?_)
    · skip
      have hin0 : inR x 0 3 = true := by simp_all [inR, ← Int32.not_lt]
      obtain ⟨mk, hmk, rfl⟩ := inR_of (M := 3) (n := 3) (by decide) hin0
      have hsp : sOpen σ (nI mk) = fst' (qOpen σ mk) (kIs σ).length 0 := by simp_all [sOpen, nI_clamp (show mk < 2 ^ 31 by omega)]
      refine lv_iconst (v := 0) hx hb d_MM_open_11 (by decide) ?_
      refine lv_istore_n (lv' := [(2, .int 0), (0, .ref h), (1, .int (nI mk))]) hx hb d_MM_open_12 rfl hl (by decide) rfl (fun ls hl => ?_)
      obtain ⟨i, hi0⟩ : ∃ z : Nat, z = 0 := ⟨_, rfl⟩
      obtain ⟨n, hn⟩ : ∃ z : Nat, i + z = (kIs σ).length := ⟨(kIs σ).length - i, by omega⟩
      replace hl : lv_has ls 3 [(2, .int (nI i)), (0, .ref h), (1, .int (nI mk))] := by rw [hi0, nI_0]; exact hl
      have hinv : fst' (qOpen σ mk) n i = sOpen σ (nI mk) := by subst hi0; rw [Nat.zero_add] at hn; rw [hn]; exact hsp.symm
      clear hi0
      induction n generalizing i ls with
      | zero =>
        refine lv_iload_n hx hb d_MM_open_13 rfl (lv_at hl 0 rfl) ?_
        refine lv_aload_n hx hb d_MM_open_14 rfl (lv_at hl 1 rfl) ?_
        refine g_get hx hb hts i_MM hown hK.1 hP (show A (20, 0) = some (h, .inr (5, [.ref (ad 0), .ref (ad 1), .int (nI ((kBu σ).length)), .ref (ad 3), .ref (ad 4), .ref (ad 5), .ref (ad 6), .ref (ad 7), .ref (ad 8), .ref (ad 9), .ref (ad 10), .int (nI ((kRs σ).length)), .ref (ad 12), .ref (ad 13), .ref (ad 14), .ref (ad 15), .ref (ad 16), .ref (ad 17), .ref (ad 18), .ref (ad 19), .ref (ad 20), .ref (ad 21), .int (nI ((kIs σ).length)), .int (nI (kMk σ) - 1)])) from hM.1) rfl 22 (by decide) (hts _ k_465) (fun _ h9 => h9) rfl d_MM_open_15 ?_
        refine lv_icmp_ge (tgt := 57) hx hb d_MM_open_18 (by decide) (fun _ => ?_) (fun h9 => absurd (nI_le (show (kIs σ).length ≤ i by omega) (by omega)) h9)
        refine lv_bipush (v := (-10)) hx hb d_MM_open_57 (by decide) ?_
        exact W.iret hx hb hr (fun t ht _ => ⟨_, rfl, (by first | (rw [← hinv]; rfl) | (rw [← hinv]; simp_all [fst', qOpen]; done) | (simp_all [sOpen, inR, ← Int32.not_lt]; done)), ht⟩) (fun _ h => nomatch h) d_MM_open_59
      | succ n ih =>
        refine lv_iload_n hx hb d_MM_open_13 rfl (lv_at hl 0 rfl) ?_
        refine lv_aload_n hx hb d_MM_open_14 rfl (lv_at hl 1 rfl) ?_
        refine g_get hx hb hts i_MM hown hK.1 hP (show A (20, 0) = some (h, .inr (5, [.ref (ad 0), .ref (ad 1), .int (nI ((kBu σ).length)), .ref (ad 3), .ref (ad 4), .ref (ad 5), .ref (ad 6), .ref (ad 7), .ref (ad 8), .ref (ad 9), .ref (ad 10), .int (nI ((kRs σ).length)), .ref (ad 12), .ref (ad 13), .ref (ad 14), .ref (ad 15), .ref (ad 16), .ref (ad 17), .ref (ad 18), .ref (ad 19), .ref (ad 20), .ref (ad 21), .int (nI ((kIs σ).length)), .int (nI (kMk σ) - 1)])) from hM.1) rfl 22 (by decide) (hts _ k_465) (fun _ h9 => h9) rfl d_MM_open_15 ?_
        refine lv_icmp_ge (tgt := 57) hx hb d_MM_open_18 (by decide) (fun h9 => absurd h9 (nI_ge (show i < (kIs σ).length by omega) (by omega))) (fun _ => ?_)
        refine lv_aload_n hx hb d_MM_open_21 rfl (lv_at hl 1 rfl) ?_
        refine g_get hx hb hts i_MM hown hK.1 hP (show A (20, 0) = some (h, .inr (5, [.ref (ad 0), .ref (ad 1), .int (nI ((kBu σ).length)), .ref (ad 3), .ref (ad 4), .ref (ad 5), .ref (ad 6), .ref (ad 7), .ref (ad 8), .ref (ad 9), .ref (ad 10), .int (nI ((kRs σ).length)), .ref (ad 12), .ref (ad 13), .ref (ad 14), .ref (ad 15), .ref (ad 16), .ref (ad 17), .ref (ad 18), .ref (ad 19), .ref (ad 20), .ref (ad 21), .int (nI ((kIs σ).length)), .int (nI (kMk σ) - 1)])) from hM.1) rfl 20 (by decide) (hts _ k_463) (fun _ h9 => h9) rfl d_MM_open_22 ?_
        refine lv_iload_n hx hb d_MM_open_25 rfl (lv_at hl 0 rfl) ?_
        obtain ⟨⟨bz5a, bz5b⟩, bz5c⟩ := w4 i (by omega)
        refine g_zald (v := bI (iLv ((kIs σ).getD i i0))) hx hb hK.1 hP 1 (show A (41, 0) = some (ad 20, .inl (cZ, 160, .inl (F 20))) from hM.2.1 20 rfl) rfl (vp_in_nI (show i < 160 by omega) (by omega)) (by rw [(nI_clamp (show i < 2 ^ 31 by omega))]; exact (hit i (by omega)).2.2.2.2.2.2.1) d_MM_open_26 ?_
        refine lv_if_eq (tgt := 51) hx hb d_MM_open_27 (by decide) (fun c6 => ?_) (fun c6 => ?_)
        · skip
          rw [bI_0] at c6
          refine lv_iinc (v := nI (i + 1)) (lv' := [(2, .int (nI (i + 1))), (0, .ref h), (1, .int (nI mk))]) hx hb d_MM_open_51 hl (k := 0) rfl (nI_1 _) (by decide) rfl (fun ls hl => ?_)
          refine lv_goto (tgt := 13) hx hb d_MM_open_54 (by decide) ?_
          exact ih _ _ (by omega) (lv_sub hl [0, 1, 2] rfl) (by simp_all [fst', qOpen])
        · skip
          rw [bI_0] at c6
          refine lv_aload_n hx hb d_MM_open_30 rfl (lv_at hl 1 rfl) ?_
          refine g_get hx hb hts i_MM hown hK.1 hP (show A (20, 0) = some (h, .inr (5, [.ref (ad 0), .ref (ad 1), .int (nI ((kBu σ).length)), .ref (ad 3), .ref (ad 4), .ref (ad 5), .ref (ad 6), .ref (ad 7), .ref (ad 8), .ref (ad 9), .ref (ad 10), .int (nI ((kRs σ).length)), .ref (ad 12), .ref (ad 13), .ref (ad 14), .ref (ad 15), .ref (ad 16), .ref (ad 17), .ref (ad 18), .ref (ad 19), .ref (ad 20), .ref (ad 21), .int (nI ((kIs σ).length)), .int (nI (kMk σ) - 1)])) from hM.1) rfl 13 (by decide) (hts _ k_456) (fun _ h9 => h9) rfl d_MM_open_31 ?_
          refine lv_iload_n hx hb d_MM_open_34 rfl (lv_at hl 0 rfl) ?_
          obtain ⟨⟨bz7a, bz7b⟩, bz7c⟩ := w4 i (by omega)
          refine g_iald (v := nI (iMk ((kIs σ).getD i i0))) hx hb hK.1 hP 0 (show A (34, 0) = some (ad 13, .inl (cI, 160, .inl (F 13))) from hM.2.1 13 rfl) rfl (vp_in_nI (show i < 160 by omega) (by omega)) (by rw [(nI_clamp (show i < 2 ^ 31 by omega))]; exact (hit i (by omega)).1) d_MM_open_35 ?_
          refine lv_iload_n hx hb d_MM_open_36 rfl (lv_at hl 2 rfl) ?_
          refine lv_icmp_ne (tgt := 51) hx hb d_MM_open_37 (by decide) (fun c8 => ?_) (fun c8 => ?_)
          · skip
            replace c8 : ¬ iMk ((kIs σ).getD i i0) = mk := fun q => c8 ((nI_eq (a := iMk ((kIs σ).getD i i0)) (b := mk) (by omega) (by omega)).mpr q)
            refine lv_iinc (v := nI (i + 1)) (lv' := [(2, .int (nI (i + 1))), (0, .ref h), (1, .int (nI mk))]) hx hb d_MM_open_51 hl (k := 0) rfl (nI_1 _) (by decide) rfl (fun ls hl => ?_)
            refine lv_goto (tgt := 13) hx hb d_MM_open_54 (by decide) ?_
            exact ih _ _ (by omega) (lv_sub hl [0, 1, 2] rfl) (by simp_all [fst', qOpen])
          · skip
            replace c8 : iMk ((kIs σ).getD i i0) = mk := (nI_eq (a := iMk ((kIs σ).getD i i0)) (b := mk) (by omega) (by omega)).mp c8
            refine lv_aload_n hx hb d_MM_open_40 rfl (lv_at hl 1 rfl) ?_
            refine g_get hx hb hts i_MM hown hK.1 hP (show A (20, 0) = some (h, .inr (5, [.ref (ad 0), .ref (ad 1), .int (nI ((kBu σ).length)), .ref (ad 3), .ref (ad 4), .ref (ad 5), .ref (ad 6), .ref (ad 7), .ref (ad 8), .ref (ad 9), .ref (ad 10), .int (nI ((kRs σ).length)), .ref (ad 12), .ref (ad 13), .ref (ad 14), .ref (ad 15), .ref (ad 16), .ref (ad 17), .ref (ad 18), .ref (ad 19), .ref (ad 20), .ref (ad 21), .int (nI ((kIs σ).length)), .int (nI (kMk σ) - 1)])) from hM.1) rfl 21 (by decide) (hts _ k_464) (fun _ h9 => h9) rfl d_MM_open_41 ?_
            refine lv_iload_n hx hb d_MM_open_44 rfl (lv_at hl 0 rfl) ?_
            obtain ⟨⟨bz9a, bz9b⟩, bz9c⟩ := w4 i (by omega)
            refine g_zald (v := bI (iVe ((kIs σ).getD i i0))) hx hb hK.1 hP 1 (show A (42, 0) = some (ad 21, .inl (cZ, 160, .inl (F 21))) from hM.2.1 21 rfl) rfl (vp_in_nI (show i < 160 by omega) (by omega)) (by rw [(nI_clamp (show i < 2 ^ 31 by omega))]; exact (hit i (by omega)).2.2.2.2.2.2.2) d_MM_open_45 ?_
            refine lv_if_ne (tgt := 51) hx hb d_MM_open_46 (by decide) (fun c10 => ?_) (fun c10 => ?_)
            · skip
              rw [bI_0] at c10
              refine lv_iinc (v := nI (i + 1)) (lv' := [(2, .int (nI (i + 1))), (0, .ref h), (1, .int (nI mk))]) hx hb d_MM_open_51 hl (k := 0) rfl (nI_1 _) (by decide) rfl (fun ls hl => ?_)
              refine lv_goto (tgt := 13) hx hb d_MM_open_54 (by decide) ?_
              exact ih _ _ (by omega) (lv_sub hl [0, 1, 2] rfl) (by simp_all [fst', qOpen])
            · skip
              rw [bI_0] at c10
              refine lv_iload_n hx hb d_MM_open_49 rfl (lv_at hl 0 rfl) ?_
              exact W.iret hx hb hr (fun t ht _ => ⟨_, rfl, (by first | (rw [← hinv]; rfl) | (rw [← hinv]; simp_all [fst', qOpen]; done) | (simp_all [sOpen, inR, ← Int32.not_lt]; done)), ht⟩) (fun _ h => nomatch h) d_MM_open_50
    · skip
      refine lv_iconst (v := (-1)) hx hb d_MM_open_9 (by decide) ?_
      exact W.iret hx hb hr (fun t ht _ => ⟨_, rfl, (by first | (rw [← hinv]; rfl) | (rw [← hinv]; simp_all [fst', qOpen]; done) | (simp_all [sOpen, inR, ← Int32.not_lt]; done)), ht⟩) (fun _ h => nomatch h) d_MM_open_10
set_option maxHeartbeats 4000000 in
set_option maxRecDepth 100000 in
theorem c_MM_noted (l : Launch) {D : va_G} {cI cZ cO cL : ClassId} {b e0 : Nat} {A : gW} {h : Nat} {σ : Bk} (hB : rMo cI cZ cL A h σ) (hw : wf σ) (x wh : Int32) : Met l y_MM_noted (Cond.code y_MM_noted b_MM_noted 3 (some .long) :: TT) ({ frames := 0, cells := 0, slots := 0, locals := 0 }) (va_Pc [.ref h, .int x, .int wh] (gI D [(cI, .int), (cZ, .boolean), (cO, .object "java/lang/Object"), (cL, .long)] b e0 A)) (vp_Sl (fun z => z = sNoted σ x wh)) 0 0 (fun _ => False) := by
  refine Met.ofG (own := R_MM) (by decide +kernel) rfl (Nat.le_of_ble_eq_true rfl) ?_
  intro p e s m below meth c ls hx hb hr hlk hml hown hnm hts hI hl
  have hl : lv_has ls 3 [(0, .ref h), (1, .int x), (2, .int wh)] := hl
  obtain ⟨hP, hK⟩ := hI
  obtain ⟨ad, F, G, hM, hR⟩ := id hB
  obtain ⟨hb0, hru, hrz, hst, hit, hiz, hgn⟩ := id hR
  obtain ⟨w1, w2, w3, w4, w5, w6, w7, w8⟩ := id hw
  refine lv_iload_n hx hb d_MM_noted_0 rfl (lv_at hl 1 rfl) ?_
  refine lv_if_lt (tgt := 12) hx hb d_MM_noted_1 (by decide) (fun c1 => ?_) (fun c1 => ?_)
  · skip
    refine lv_ldc2 (v := 60000000000) hx hb hown (hts _ k_544) d_MM_noted_12 ?_
    exact W.lret hx hb hr (fun t ht _ => ⟨_, rfl, (by unfold sNoted; rw [if_neg (by rw [inM0 c1]; decide)]; rfl), ht⟩) (fun _ h => nomatch h) d_MM_noted_15
  · skip
    refine lv_iload_n hx hb d_MM_noted_4 rfl (lv_at hl 1 rfl) ?_
    refine lv_aload_n hx hb d_MM_noted_5 rfl (lv_at hl 0 rfl) ?_
    refine g_get hx hb hts i_MM hown hK.1 hP (show A (20, 0) = some (h, .inr (5, [.ref (ad 0), .ref (ad 1), .int (nI ((kBu σ).length)), .ref (ad 3), .ref (ad 4), .ref (ad 5), .ref (ad 6), .ref (ad 7), .ref (ad 8), .ref (ad 9), .ref (ad 10), .int (nI ((kRs σ).length)), .ref (ad 12), .ref (ad 13), .ref (ad 14), .ref (ad 15), .ref (ad 16), .ref (ad 17), .ref (ad 18), .ref (ad 19), .ref (ad 20), .ref (ad 21), .int (nI ((kIs σ).length)), .int (nI (kMk σ) - 1)])) from hM.1) rfl 22 (by decide) (hts _ k_465) (fun _ h9 => h9) rfl d_MM_noted_6 ?_
    refine lv_icmp_lt (tgt := 16) hx hb d_MM_noted_9 (by decide) (fun c2 => ?_) (fun c2 => ?_)
    · skip
      obtain ⟨j, hj, rfl⟩ := inM c1 (Int32.not_le.mpr c2) (show (kIs σ).length ≤ 1000 by omega)
      have hcl := nI_clamp (show j < 2 ^ 31 by omega)
      have hjn := inN_t (show (kIs σ).length ≤ 1000 by omega) hj
      refine lv_iload_n hx hb d_MM_noted_16 rfl (lv_at hl 2 rfl) ?_
      by_cases c3 : wh = 0
      · refine lv_tableIn (off := 55) (tgt := 72) hx hb d_MM_noted_17 (by rw [c3]; decide) (by rw [c3]; decide) (by rw [c3]; rfl) (by decide) ?_
        subst c3
        refine lv_aload_n hx hb d_MM_noted_72 rfl (lv_at hl 0 rfl) ?_
        refine g_get hx hb hts i_MM hown hK.1 hP (show A (20, 0) = some (h, .inr (5, [.ref (ad 0), .ref (ad 1), .int (nI ((kBu σ).length)), .ref (ad 3), .ref (ad 4), .ref (ad 5), .ref (ad 6), .ref (ad 7), .ref (ad 8), .ref (ad 9), .ref (ad 10), .int (nI ((kRs σ).length)), .ref (ad 12), .ref (ad 13), .ref (ad 14), .ref (ad 15), .ref (ad 16), .ref (ad 17), .ref (ad 18), .ref (ad 19), .ref (ad 20), .ref (ad 21), .int (nI ((kIs σ).length)), .int (nI (kMk σ) - 1)])) from hM.1) rfl 13 (by decide) (hts _ k_456) (fun _ h9 => h9) rfl d_MM_noted_73 ?_
        refine lv_iload_n hx hb d_MM_noted_76 rfl (lv_at hl 1 rfl) ?_
        obtain ⟨⟨bz4a, bz4b⟩, bz4c⟩ := w4 j (by omega)
        refine g_iald (v := nI (iMk ((kIs σ).getD j i0))) hx hb hK.1 hP 0 (show A (34, 0) = some (ad 13, .inl (cI, 160, .inl (F 13))) from hM.2.1 13 rfl) rfl (vp_in_nI (show j < 160 by omega) (by omega)) (by rw [(nI_clamp (show j < 2 ^ 31 by omega))]; exact (hit j (by omega)).1) d_MM_noted_77 ?_
        refine lv_i2l (v := (nI (iMk ((kIs σ).getD j i0))).toInt64) hx hb d_MM_noted_78 rfl ?_
        exact W.lret hx hb hr (fun t ht _ => ⟨_, rfl, (by unfold sNoted; rw [if_pos hjn, hcl]; simp_all [notA, xNONE, bI]), ht⟩) (fun _ h => nomatch h) d_MM_noted_79
      by_cases c5 : wh = 1
      · refine lv_tableIn (off := 63) (tgt := 80) hx hb d_MM_noted_17 (by rw [c5]; decide) (by rw [c5]; decide) (by rw [c5]; rfl) (by decide) ?_
        subst c5
        refine lv_aload_n hx hb d_MM_noted_80 rfl (lv_at hl 0 rfl) ?_
        refine g_get hx hb hts i_MM hown hK.1 hP (show A (20, 0) = some (h, .inr (5, [.ref (ad 0), .ref (ad 1), .int (nI ((kBu σ).length)), .ref (ad 3), .ref (ad 4), .ref (ad 5), .ref (ad 6), .ref (ad 7), .ref (ad 8), .ref (ad 9), .ref (ad 10), .int (nI ((kRs σ).length)), .ref (ad 12), .ref (ad 13), .ref (ad 14), .ref (ad 15), .ref (ad 16), .ref (ad 17), .ref (ad 18), .ref (ad 19), .ref (ad 20), .ref (ad 21), .int (nI ((kIs σ).length)), .int (nI (kMk σ) - 1)])) from hM.1) rfl 14 (by decide) (hts _ k_457) (fun _ h9 => h9) rfl d_MM_noted_81 ?_
        refine lv_iload_n hx hb d_MM_noted_84 rfl (lv_at hl 1 rfl) ?_
        obtain ⟨⟨bz6a, bz6b⟩, bz6c⟩ := w4 j (by omega)
        refine g_iald (v := nI (iMt ((kIs σ).getD j i0))) hx hb hK.1 hP 0 (show A (35, 0) = some (ad 14, .inl (cI, 160, .inl (F 14))) from hM.2.1 14 rfl) rfl (vp_in_nI (show j < 160 by omega) (by omega)) (by rw [(nI_clamp (show j < 2 ^ 31 by omega))]; exact (hit j (by omega)).2.1) d_MM_noted_85 ?_
        refine lv_i2l (v := (nI (iMt ((kIs σ).getD j i0))).toInt64) hx hb d_MM_noted_86 rfl ?_
        exact W.lret hx hb hr (fun t ht _ => ⟨_, rfl, (by unfold sNoted; rw [if_pos hjn, hcl]; simp_all [notA, xNONE, bI]), ht⟩) (fun _ h => nomatch h) d_MM_noted_87
      by_cases c7 : wh = 2
      · refine lv_tableIn (off := 71) (tgt := 88) hx hb d_MM_noted_17 (by rw [c7]; decide) (by rw [c7]; decide) (by rw [c7]; rfl) (by decide) ?_
        subst c7
        refine lv_aload_n hx hb d_MM_noted_88 rfl (lv_at hl 0 rfl) ?_
        refine g_get hx hb hts i_MM hown hK.1 hP (show A (20, 0) = some (h, .inr (5, [.ref (ad 0), .ref (ad 1), .int (nI ((kBu σ).length)), .ref (ad 3), .ref (ad 4), .ref (ad 5), .ref (ad 6), .ref (ad 7), .ref (ad 8), .ref (ad 9), .ref (ad 10), .int (nI ((kRs σ).length)), .ref (ad 12), .ref (ad 13), .ref (ad 14), .ref (ad 15), .ref (ad 16), .ref (ad 17), .ref (ad 18), .ref (ad 19), .ref (ad 20), .ref (ad 21), .int (nI ((kIs σ).length)), .int (nI (kMk σ) - 1)])) from hM.1) rfl 15 (by decide) (hts _ k_458) (fun _ h9 => h9) rfl d_MM_noted_89 ?_
        refine lv_iconst (v := 3) hx hb d_MM_noted_92 (by decide) ?_
        refine lv_iload_n hx hb d_MM_noted_93 rfl (lv_at hl 1 rfl) ?_
        refine lv_imul hx hb d_MM_noted_94 ?_
        rw [mul3 _]
        refine lv_iload_n hx hb d_MM_noted_95 rfl (lv_at hl 2 rfl) ?_
        refine lv_iadd hx hb d_MM_noted_96 ?_
        rw [add2' _]
        refine lv_iconst (v := 2) hx hb d_MM_noted_97 (by decide) ?_
        refine lv_isub hx hb d_MM_noted_98 ?_
        rw [show nI (3 * j + 2) - 2 = nI (3 * j) from pk_sub (a := 3 * j + 2) (b := 2) (show 2 ≤ 3 * j + 2 by omega)]
        refine g_iald (v := (iX ((kIs σ).getD j i0)).1) hx hb hK.1 hP 0 (show A (36, 0) = some (ad 15, .inl (cI, 480, .inl (F 15))) from hM.2.1 15 rfl) rfl (vp_in_nI (show 3 * j < 480 by omega) (by omega)) (by rw [(nI_clamp (show 3 * j < 2 ^ 31 by omega))]; exact ((hit j (by omega)).2.2.1 0 (by omega)).trans (argP_0 _)) d_MM_noted_99 ?_
        refine lv_i2l (v := ((iX ((kIs σ).getD j i0)).1).toInt64) hx hb d_MM_noted_100 rfl ?_
        exact W.lret hx hb hr (fun t ht _ => ⟨_, rfl, (by unfold sNoted; rw [if_pos hjn, hcl]; simp_all [notA, xNONE, bI]), ht⟩) (fun _ h => nomatch h) d_MM_noted_101
      by_cases c8 : wh = 3
      · refine lv_tableIn (off := 71) (tgt := 88) hx hb d_MM_noted_17 (by rw [c8]; decide) (by rw [c8]; decide) (by rw [c8]; rfl) (by decide) ?_
        subst c8
        refine lv_aload_n hx hb d_MM_noted_88 rfl (lv_at hl 0 rfl) ?_
        refine g_get hx hb hts i_MM hown hK.1 hP (show A (20, 0) = some (h, .inr (5, [.ref (ad 0), .ref (ad 1), .int (nI ((kBu σ).length)), .ref (ad 3), .ref (ad 4), .ref (ad 5), .ref (ad 6), .ref (ad 7), .ref (ad 8), .ref (ad 9), .ref (ad 10), .int (nI ((kRs σ).length)), .ref (ad 12), .ref (ad 13), .ref (ad 14), .ref (ad 15), .ref (ad 16), .ref (ad 17), .ref (ad 18), .ref (ad 19), .ref (ad 20), .ref (ad 21), .int (nI ((kIs σ).length)), .int (nI (kMk σ) - 1)])) from hM.1) rfl 15 (by decide) (hts _ k_458) (fun _ h9 => h9) rfl d_MM_noted_89 ?_
        refine lv_iconst (v := 3) hx hb d_MM_noted_92 (by decide) ?_
        refine lv_iload_n hx hb d_MM_noted_93 rfl (lv_at hl 1 rfl) ?_
        refine lv_imul hx hb d_MM_noted_94 ?_
        rw [mul3 _]
        refine lv_iload_n hx hb d_MM_noted_95 rfl (lv_at hl 2 rfl) ?_
        refine lv_iadd hx hb d_MM_noted_96 ?_
        rw [show nI (3 * j) + 3 = nI (3 * j + 3) from nI_add _ 3]
        refine lv_iconst (v := 2) hx hb d_MM_noted_97 (by decide) ?_
        refine lv_isub hx hb d_MM_noted_98 ?_
        rw [show nI (3 * j + 3) - 2 = nI (3 * j + 1) from pk_sub (a := 3 * j + 3) (b := 2) (show 2 ≤ 3 * j + 3 by omega)]
        refine g_iald (v := (iX ((kIs σ).getD j i0)).2.1) hx hb hK.1 hP 0 (show A (36, 0) = some (ad 15, .inl (cI, 480, .inl (F 15))) from hM.2.1 15 rfl) rfl (vp_in_nI (show 3 * j + 1 < 480 by omega) (by omega)) (by rw [(nI_clamp (show 3 * j + 1 < 2 ^ 31 by omega))]; exact ((hit j (by omega)).2.2.1 1 (by omega)).trans (argP_1 _)) d_MM_noted_99 ?_
        refine lv_i2l (v := ((iX ((kIs σ).getD j i0)).2.1).toInt64) hx hb d_MM_noted_100 rfl ?_
        exact W.lret hx hb hr (fun t ht _ => ⟨_, rfl, (by unfold sNoted; rw [if_pos hjn, hcl]; simp_all [notA, xNONE, bI]), ht⟩) (fun _ h => nomatch h) d_MM_noted_101
      by_cases c9 : wh = 4
      · refine lv_tableIn (off := 71) (tgt := 88) hx hb d_MM_noted_17 (by rw [c9]; decide) (by rw [c9]; decide) (by rw [c9]; rfl) (by decide) ?_
        subst c9
        refine lv_aload_n hx hb d_MM_noted_88 rfl (lv_at hl 0 rfl) ?_
        refine g_get hx hb hts i_MM hown hK.1 hP (show A (20, 0) = some (h, .inr (5, [.ref (ad 0), .ref (ad 1), .int (nI ((kBu σ).length)), .ref (ad 3), .ref (ad 4), .ref (ad 5), .ref (ad 6), .ref (ad 7), .ref (ad 8), .ref (ad 9), .ref (ad 10), .int (nI ((kRs σ).length)), .ref (ad 12), .ref (ad 13), .ref (ad 14), .ref (ad 15), .ref (ad 16), .ref (ad 17), .ref (ad 18), .ref (ad 19), .ref (ad 20), .ref (ad 21), .int (nI ((kIs σ).length)), .int (nI (kMk σ) - 1)])) from hM.1) rfl 15 (by decide) (hts _ k_458) (fun _ h9 => h9) rfl d_MM_noted_89 ?_
        refine lv_iconst (v := 3) hx hb d_MM_noted_92 (by decide) ?_
        refine lv_iload_n hx hb d_MM_noted_93 rfl (lv_at hl 1 rfl) ?_
        refine lv_imul hx hb d_MM_noted_94 ?_
        rw [mul3 _]
        refine lv_iload_n hx hb d_MM_noted_95 rfl (lv_at hl 2 rfl) ?_
        refine lv_iadd hx hb d_MM_noted_96 ?_
        rw [show nI (3 * j) + 4 = nI (3 * j + 4) from nI_add _ 4]
        refine lv_iconst (v := 2) hx hb d_MM_noted_97 (by decide) ?_
        refine lv_isub hx hb d_MM_noted_98 ?_
        rw [show nI (3 * j + 4) - 2 = nI (3 * j + 2) from pk_sub (a := 3 * j + 4) (b := 2) (show 2 ≤ 3 * j + 4 by omega)]
        refine g_iald (v := (iX ((kIs σ).getD j i0)).2.2) hx hb hK.1 hP 0 (show A (36, 0) = some (ad 15, .inl (cI, 480, .inl (F 15))) from hM.2.1 15 rfl) rfl (vp_in_nI (show 3 * j + 2 < 480 by omega) (by omega)) (by rw [(nI_clamp (show 3 * j + 2 < 2 ^ 31 by omega))]; exact ((hit j (by omega)).2.2.1 2 (by omega)).trans (argP_2 _)) d_MM_noted_99 ?_
        refine lv_i2l (v := ((iX ((kIs σ).getD j i0)).2.2).toInt64) hx hb d_MM_noted_100 rfl ?_
        exact W.lret hx hb hr (fun t ht _ => ⟨_, rfl, (by unfold sNoted; rw [if_pos hjn, hcl]; simp_all [notA, xNONE, bI]), ht⟩) (fun _ h => nomatch h) d_MM_noted_101
      by_cases c10 : wh = 5
      · refine lv_tableIn (off := 85) (tgt := 102) hx hb d_MM_noted_17 (by rw [c10]; decide) (by rw [c10]; decide) (by rw [c10]; rfl) (by decide) ?_
        subst c10
        refine lv_aload_n hx hb d_MM_noted_102 rfl (lv_at hl 0 rfl) ?_
        refine g_get hx hb hts i_MM hown hK.1 hP (show A (20, 0) = some (h, .inr (5, [.ref (ad 0), .ref (ad 1), .int (nI ((kBu σ).length)), .ref (ad 3), .ref (ad 4), .ref (ad 5), .ref (ad 6), .ref (ad 7), .ref (ad 8), .ref (ad 9), .ref (ad 10), .int (nI ((kRs σ).length)), .ref (ad 12), .ref (ad 13), .ref (ad 14), .ref (ad 15), .ref (ad 16), .ref (ad 17), .ref (ad 18), .ref (ad 19), .ref (ad 20), .ref (ad 21), .int (nI ((kIs σ).length)), .int (nI (kMk σ) - 1)])) from hM.1) rfl 16 (by decide) (hts _ k_459) (fun _ h9 => h9) rfl d_MM_noted_103 ?_
        refine lv_iload_n hx hb d_MM_noted_106 rfl (lv_at hl 1 rfl) ?_
        obtain ⟨⟨bz11a, bz11b⟩, bz11c⟩ := w4 j (by omega)
        refine g_iald (v := nI (iDp ((kIs σ).getD j i0))) hx hb hK.1 hP 0 (show A (37, 0) = some (ad 16, .inl (cI, 160, .inl (F 16))) from hM.2.1 16 rfl) rfl (vp_in_nI (show j < 160 by omega) (by omega)) (by rw [(nI_clamp (show j < 2 ^ 31 by omega))]; exact (hit j (by omega)).2.2.2.1) d_MM_noted_107 ?_
        refine lv_i2l (v := (nI (iDp ((kIs σ).getD j i0))).toInt64) hx hb d_MM_noted_108 rfl ?_
        exact W.lret hx hb hr (fun t ht _ => ⟨_, rfl, (by unfold sNoted; rw [if_pos hjn, hcl]; simp_all [notA, xNONE, bI]), ht⟩) (fun _ h => nomatch h) d_MM_noted_109
      by_cases c12 : wh = 6
      · refine lv_tableIn (off := 93) (tgt := 110) hx hb d_MM_noted_17 (by rw [c12]; decide) (by rw [c12]; decide) (by rw [c12]; rfl) (by decide) ?_
        subst c12
        refine lv_aload_n hx hb d_MM_noted_110 rfl (lv_at hl 0 rfl) ?_
        refine g_get hx hb hts i_MM hown hK.1 hP (show A (20, 0) = some (h, .inr (5, [.ref (ad 0), .ref (ad 1), .int (nI ((kBu σ).length)), .ref (ad 3), .ref (ad 4), .ref (ad 5), .ref (ad 6), .ref (ad 7), .ref (ad 8), .ref (ad 9), .ref (ad 10), .int (nI ((kRs σ).length)), .ref (ad 12), .ref (ad 13), .ref (ad 14), .ref (ad 15), .ref (ad 16), .ref (ad 17), .ref (ad 18), .ref (ad 19), .ref (ad 20), .ref (ad 21), .int (nI ((kIs σ).length)), .int (nI (kMk σ) - 1)])) from hM.1) rfl 17 (by decide) (hts _ k_460) (fun _ h9 => h9) rfl d_MM_noted_111 ?_
        refine lv_iload_n hx hb d_MM_noted_114 rfl (lv_at hl 1 rfl) ?_
        obtain ⟨⟨bz13a, bz13b⟩, bz13c⟩ := w4 j (by omega)
        refine g_iald (v := iFr ((kIs σ).getD j i0)) hx hb hK.1 hP 0 (show A (38, 0) = some (ad 17, .inl (cI, 160, .inl (F 17))) from hM.2.1 17 rfl) rfl (vp_in_nI (show j < 160 by omega) (by omega)) (by rw [(nI_clamp (show j < 2 ^ 31 by omega))]; exact (hit j (by omega)).2.2.2.2.1) d_MM_noted_115 ?_
        refine lv_i2l (v := (iFr ((kIs σ).getD j i0)).toInt64) hx hb d_MM_noted_116 rfl ?_
        exact W.lret hx hb hr (fun t ht _ => ⟨_, rfl, (by unfold sNoted; rw [if_pos hjn, hcl]; simp_all [notA, xNONE, bI]), ht⟩) (fun _ h => nomatch h) d_MM_noted_117
      by_cases c14 : wh = 7
      · refine lv_tableIn (off := 101) (tgt := 118) hx hb d_MM_noted_17 (by rw [c14]; decide) (by rw [c14]; decide) (by rw [c14]; rfl) (by decide) ?_
        subst c14
        refine lv_aload_n hx hb d_MM_noted_118 rfl (lv_at hl 0 rfl) ?_
        refine g_get hx hb hts i_MM hown hK.1 hP (show A (20, 0) = some (h, .inr (5, [.ref (ad 0), .ref (ad 1), .int (nI ((kBu σ).length)), .ref (ad 3), .ref (ad 4), .ref (ad 5), .ref (ad 6), .ref (ad 7), .ref (ad 8), .ref (ad 9), .ref (ad 10), .int (nI ((kRs σ).length)), .ref (ad 12), .ref (ad 13), .ref (ad 14), .ref (ad 15), .ref (ad 16), .ref (ad 17), .ref (ad 18), .ref (ad 19), .ref (ad 20), .ref (ad 21), .int (nI ((kIs σ).length)), .int (nI (kMk σ) - 1)])) from hM.1) rfl 21 (by decide) (hts _ k_464) (fun _ h9 => h9) rfl d_MM_noted_119 ?_
        refine lv_iload_n hx hb d_MM_noted_122 rfl (lv_at hl 1 rfl) ?_
        obtain ⟨⟨bz15a, bz15b⟩, bz15c⟩ := w4 j (by omega)
        refine g_zald (v := bI (iVe ((kIs σ).getD j i0))) hx hb hK.1 hP 1 (show A (42, 0) = some (ad 21, .inl (cZ, 160, .inl (F 21))) from hM.2.1 21 rfl) rfl (vp_in_nI (show j < 160 by omega) (by omega)) (by rw [(nI_clamp (show j < 2 ^ 31 by omega))]; exact (hit j (by omega)).2.2.2.2.2.2.2) d_MM_noted_123 ?_
        refine lv_if_eq (tgt := 131) hx hb d_MM_noted_124 (by decide) (fun c16 => ?_) (fun c16 => ?_)
        · skip
          rw [bI_0] at c16
          refine lv_lconst (v := 0) hx hb d_MM_noted_131 (by decide) ?_
          exact W.lret hx hb hr (fun t ht _ => ⟨_, rfl, (by unfold sNoted; rw [if_pos hjn, hcl]; simp_all [notA, xNONE, bI]), ht⟩) (fun _ h => nomatch h) d_MM_noted_132
        · skip
          rw [bI_0] at c16
          refine lv_lconst (v := 1) hx hb d_MM_noted_127 (by decide) ?_
          refine lv_goto (tgt := 132) hx hb d_MM_noted_128 (by decide) ?_
          exact W.lret hx hb hr (fun t ht _ => ⟨_, rfl, (by unfold sNoted; rw [if_pos hjn, hcl]; simp_all [notA, xNONE, bI]), ht⟩) (fun _ h => nomatch h) d_MM_noted_132
      by_cases c17 : wh = 8
      · refine lv_tableIn (off := 116) (tgt := 133) hx hb d_MM_noted_17 (by rw [c17]; decide) (by rw [c17]; decide) (by rw [c17]; rfl) (by decide) ?_
        subst c17
        refine lv_aload_n hx hb d_MM_noted_133 rfl (lv_at hl 0 rfl) ?_
        refine g_get hx hb hts i_MM hown hK.1 hP (show A (20, 0) = some (h, .inr (5, [.ref (ad 0), .ref (ad 1), .int (nI ((kBu σ).length)), .ref (ad 3), .ref (ad 4), .ref (ad 5), .ref (ad 6), .ref (ad 7), .ref (ad 8), .ref (ad 9), .ref (ad 10), .int (nI ((kRs σ).length)), .ref (ad 12), .ref (ad 13), .ref (ad 14), .ref (ad 15), .ref (ad 16), .ref (ad 17), .ref (ad 18), .ref (ad 19), .ref (ad 20), .ref (ad 21), .int (nI ((kIs σ).length)), .int (nI (kMk σ) - 1)])) from hM.1) rfl 18 (by decide) (hts _ k_461) (fun _ h9 => h9) rfl d_MM_noted_134 ?_
        refine lv_iload_n hx hb d_MM_noted_137 rfl (lv_at hl 1 rfl) ?_
        obtain ⟨⟨bz18a, bz18b⟩, bz18c⟩ := w4 j (by omega)
        refine g_iald (v := nI (iRu ((kIs σ).getD j i0)) - 1) hx hb hK.1 hP 0 (show A (39, 0) = some (ad 18, .inl (cI, 160, .inl (F 18))) from hM.2.1 18 rfl) rfl (vp_in_nI (show j < 160 by omega) (by omega)) (by rw [(nI_clamp (show j < 2 ^ 31 by omega))]; exact (hit j (by omega)).2.2.2.2.2.1) d_MM_noted_138 ?_
        refine lv_i2l (v := (nI (iRu ((kIs σ).getD j i0)) - 1).toInt64) hx hb d_MM_noted_139 rfl ?_
        exact W.lret hx hb hr (fun t ht _ => ⟨_, rfl, (by unfold sNoted; rw [if_pos hjn, hcl]; simp_all [notA, xNONE, bI]), ht⟩) (fun _ h => nomatch h) d_MM_noted_140
      by_cases c19 : wh = 9
      · refine lv_tableIn (off := 124) (tgt := 141) hx hb d_MM_noted_17 (by rw [c19]; decide) (by rw [c19]; decide) (by rw [c19]; rfl) (by decide) ?_
        subst c19
        refine lv_aload_n hx hb d_MM_noted_141 rfl (lv_at hl 0 rfl) ?_
        refine g_get hx hb hts i_MM hown hK.1 hP (show A (20, 0) = some (h, .inr (5, [.ref (ad 0), .ref (ad 1), .int (nI ((kBu σ).length)), .ref (ad 3), .ref (ad 4), .ref (ad 5), .ref (ad 6), .ref (ad 7), .ref (ad 8), .ref (ad 9), .ref (ad 10), .int (nI ((kRs σ).length)), .ref (ad 12), .ref (ad 13), .ref (ad 14), .ref (ad 15), .ref (ad 16), .ref (ad 17), .ref (ad 18), .ref (ad 19), .ref (ad 20), .ref (ad 21), .int (nI ((kIs σ).length)), .int (nI (kMk σ) - 1)])) from hM.1) rfl 20 (by decide) (hts _ k_463) (fun _ h9 => h9) rfl d_MM_noted_142 ?_
        refine lv_iload_n hx hb d_MM_noted_145 rfl (lv_at hl 1 rfl) ?_
        obtain ⟨⟨bz20a, bz20b⟩, bz20c⟩ := w4 j (by omega)
        refine g_zald (v := bI (iLv ((kIs σ).getD j i0))) hx hb hK.1 hP 1 (show A (41, 0) = some (ad 20, .inl (cZ, 160, .inl (F 20))) from hM.2.1 20 rfl) rfl (vp_in_nI (show j < 160 by omega) (by omega)) (by rw [(nI_clamp (show j < 2 ^ 31 by omega))]; exact (hit j (by omega)).2.2.2.2.2.2.1) d_MM_noted_146 ?_
        refine lv_if_eq (tgt := 154) hx hb d_MM_noted_147 (by decide) (fun c21 => ?_) (fun c21 => ?_)
        · skip
          rw [bI_0] at c21
          refine lv_lconst (v := 0) hx hb d_MM_noted_154 (by decide) ?_
          exact W.lret hx hb hr (fun t ht _ => ⟨_, rfl, (by unfold sNoted; rw [if_pos hjn, hcl]; simp_all [notA, xNONE, bI]), ht⟩) (fun _ h => nomatch h) d_MM_noted_155
        · skip
          rw [bI_0] at c21
          refine lv_lconst (v := 1) hx hb d_MM_noted_150 (by decide) ?_
          refine lv_goto (tgt := 155) hx hb d_MM_noted_151 (by decide) ?_
          exact W.lret hx hb hr (fun t ht _ => ⟨_, rfl, (by unfold sNoted; rw [if_pos hjn, hcl]; simp_all [notA, xNONE, bI]), ht⟩) (fun _ h => nomatch h) d_MM_noted_155
      refine lv_tableOut (tgt := 156) hx hb d_MM_noted_17 (by have q0 := lv_neT c3 (show (0 : Int32).toInt = 0 by decide); have q1 := lv_neT c5 (show (1 : Int32).toInt = 1 by decide); have q2 := lv_neT c7 (show (2 : Int32).toInt = 2 by decide); have q3 := lv_neT c8 (show (3 : Int32).toInt = 3 by decide); have q4 := lv_neT c9 (show (4 : Int32).toInt = 4 by decide); have q5 := lv_neT c10 (show (5 : Int32).toInt = 5 by decide); have q6 := lv_neT c12 (show (6 : Int32).toInt = 6 by decide); have q7 := lv_neT c14 (show (7 : Int32).toInt = 7 by decide); have q8 := lv_neT c17 (show (8 : Int32).toInt = 8 by decide); have q9 := lv_neT c19 (show (9 : Int32).toInt = 9 by decide); omega) (by decide) ?_
      refine lv_ldc2 (v := 60000000000) hx hb hown (hts _ k_544) d_MM_noted_156 ?_
      exact W.lret hx hb hr (fun t ht _ => ⟨_, rfl, (by unfold sNoted; rw [if_pos hjn, hcl]; simp_all [notA, xNONE, bI]), ht⟩) (fun _ h => nomatch h) d_MM_noted_159
    · skip
      refine lv_ldc2 (v := 60000000000) hx hb hown (hts _ k_544) d_MM_noted_12 ?_
      exact W.lret hx hb hr (fun t ht _ => ⟨_, rfl, (by unfold sNoted; rw [if_neg (by rw [inM1 (Int32.not_lt.mp c2) (by omega)]; decide)]; rfl), ht⟩) (fun _ h => nomatch h) d_MM_noted_15
set_option maxHeartbeats 4000000 in
set_option maxRecDepth 100000 in
theorem c_MM_answer (l : Launch) {D : va_G} {cI cZ cO cL : ClassId} {b e0 : Nat} {A : gW} {h : Nat} {σ : Bk} (hB : rMo cI cZ cL A h σ) (hw : wf σ) (x : Int32) : Met l y_MM_answer (Cond.code y_MM_answer b_MM_answer 2 (some .long) :: TT) ({ frames := 0, cells := 0, slots := 0, locals := 0 }) (va_Pc [.ref h, .int x] (gI D [(cI, .int), (cZ, .boolean), (cO, .object "java/lang/Object"), (cL, .long)] b e0 A)) (vp_Sl (fun z => z = sAnswer σ x)) 0 0 (fun _ => False) := by
  refine Met.ofG (own := R_MM) (by decide +kernel) rfl (Nat.le_of_ble_eq_true rfl) ?_
  intro p e s m below meth c ls hx hb hr hlk hml hown hnm hts hI hl
  have hl : lv_has ls 2 [(0, .ref h), (1, .int x)] := hl
  obtain ⟨hP, hK⟩ := hI
  obtain ⟨ad, F, G, hM, hR⟩ := id hB
  obtain ⟨hb0, hru, hrz, hst, hit, hiz, hgn⟩ := id hR
  obtain ⟨w1, w2, w3, w4, w5, w6, w7, w8⟩ := id hw
  refine lv_iload_n hx hb d_MM_answer_0 rfl (lv_at hl 1 rfl) ?_
  refine lv_if_lt (tgt := 12) hx hb d_MM_answer_1 (by decide) (fun c1 => ?_) (fun c1 => ?_)
  · skip
    refine lv_ldc2 (v := 60000000000) hx hb hown (hts _ k_544) d_MM_answer_12 ?_
    refine lv_goto (tgt := 24) hx hb d_MM_answer_15 (by decide) ?_
    exact W.lret hx hb hr (fun t ht _ => ⟨_, rfl, (by unfold sAnswer; rw [if_neg (by rw [inM0 c1]; decide)]; rfl), ht⟩) (fun _ h => nomatch h) d_MM_answer_24
  · skip
    refine lv_iload_n hx hb d_MM_answer_4 rfl (lv_at hl 1 rfl) ?_
    refine lv_aload_n hx hb d_MM_answer_5 rfl (lv_at hl 0 rfl) ?_
    refine g_get hx hb hts i_MM hown hK.1 hP (show A (20, 0) = some (h, .inr (5, [.ref (ad 0), .ref (ad 1), .int (nI ((kBu σ).length)), .ref (ad 3), .ref (ad 4), .ref (ad 5), .ref (ad 6), .ref (ad 7), .ref (ad 8), .ref (ad 9), .ref (ad 10), .int (nI ((kRs σ).length)), .ref (ad 12), .ref (ad 13), .ref (ad 14), .ref (ad 15), .ref (ad 16), .ref (ad 17), .ref (ad 18), .ref (ad 19), .ref (ad 20), .ref (ad 21), .int (nI ((kIs σ).length)), .int (nI (kMk σ) - 1)])) from hM.1) rfl 22 (by decide) (hts _ k_465) (fun _ h9 => h9) rfl d_MM_answer_6 ?_
    refine lv_icmp_lt (tgt := 18) hx hb d_MM_answer_9 (by decide) (fun c2 => ?_) (fun c2 => ?_)
    · skip
      obtain ⟨j, hj, rfl⟩ := inM c1 (Int32.not_le.mpr c2) (show (kIs σ).length ≤ 1000 by omega)
      have hcl := nI_clamp (show j < 2 ^ 31 by omega)
      have hjn := inN_t (show (kIs σ).length ≤ 1000 by omega) hj
      refine lv_aload_n hx hb d_MM_answer_18 rfl (lv_at hl 0 rfl) ?_
      refine g_get hx hb hts i_MM hown hK.1 hP (show A (20, 0) = some (h, .inr (5, [.ref (ad 0), .ref (ad 1), .int (nI ((kBu σ).length)), .ref (ad 3), .ref (ad 4), .ref (ad 5), .ref (ad 6), .ref (ad 7), .ref (ad 8), .ref (ad 9), .ref (ad 10), .int (nI ((kRs σ).length)), .ref (ad 12), .ref (ad 13), .ref (ad 14), .ref (ad 15), .ref (ad 16), .ref (ad 17), .ref (ad 18), .ref (ad 19), .ref (ad 20), .ref (ad 21), .int (nI ((kIs σ).length)), .int (nI (kMk σ) - 1)])) from hM.1) rfl 19 (by decide) (hts _ k_462) (fun _ h9 => h9) rfl d_MM_answer_19 ?_
      refine lv_iload_n hx hb d_MM_answer_22 rfl (lv_at hl 1 rfl) ?_
      refine g_lald (v := iAn ((kIs σ).getD j i0)) hx hb hK.1 hP 3 (show A (40, 0) = some (ad 19, .inl (cL, 160, .inr (.inl G))) from hM.2.2) rfl (vp_in_nI (show j < 160 by omega) (by omega)) (by rw [(nI_clamp (show j < 2 ^ 31 by omega))]; exact hgn j (by omega)) d_MM_answer_23 ?_
      exact W.lret hx hb hr (fun t ht _ => ⟨_, rfl, (by unfold sAnswer; rw [if_pos hjn, hcl]), ht⟩) (fun _ h => nomatch h) d_MM_answer_24
    · skip
      refine lv_ldc2 (v := 60000000000) hx hb hown (hts _ k_544) d_MM_answer_12 ?_
      refine lv_goto (tgt := 24) hx hb d_MM_answer_15 (by decide) ?_
      exact W.lret hx hb hr (fun t ht _ => ⟨_, rfl, (by unfold sAnswer; rw [if_neg (by rw [inM1 (Int32.not_lt.mp c2) (by omega)]; decide)]; rfl), ht⟩) (fun _ h => nomatch h) d_MM_answer_24
