theorem va_up2 {α : Type} (f : Nat → α) (k : Nat) (x y : α) : va_up (va_up f k x) k y = va_up f k y := by
  funext j
  unfold va_up
  by_cases h : j = k
  · rw [if_pos h, if_pos h]
  · rw [if_neg h, if_neg h, if_neg h]
theorem upd2 (f : Nat → Int32) (k : Nat) (x y : Int32) : upd (upd f k x) k y = upd f k y := by
  funext j
  unfold upd
  by_cases h : j = k
  · rw [if_pos h, if_pos h]
  · rw [if_neg h, if_neg h, if_neg h]
theorem mul3 (a : Nat) : 3 * nI a = nI (3 * a) := pk_mul 3 a
theorem mul4 (a : Nat) : 4 * nI a = nI (4 * a) := pk_mul 4 a
theorem add2' (a : Nat) : nI a + 2 = nI (a + 2) := nI_add a 2
theorem k5 {k : Int32} (h : inR k 0 5 = true) (h0 : ¬ k = 0) (h1 : ¬ k = 1) (h2 : ¬ k = 2) (h3 : ¬ k = 3) (h4 : ¬ k = 4) : k = 5 := by
  obtain ⟨j, hj, rfl⟩ := inR_of (M := 5) (n := 5) (by decide) h
  rcases (by omega : j = 0 ∨ j = 1 ∨ j = 2 ∨ j = 3 ∨ j = 4 ∨ j = 5) with rfl | rfl | rfl | rfl | rfl | rfl
  · exact absurd rfl h0
  · exact absurd rfl h1
  · exact absurd rfl h2
  · exact absurd rfl h3
  · exact absurd rfl h4
  · rfl
set_option maxHeartbeats 4000000 in
set_option maxRecDepth 100000 in
theorem c_MM_bad (l : Launch)  (x y : Int32) : Met l y_MM_bad (Cond.code y_MM_bad b_MM_bad 2 (some .boolean) :: TT) ({ frames := 0, cells := 0, slots := 0, locals := 0 }) (va_Pc [.int x, .int y] (fun _ => True)) (vp_Si (fun r => r = bI (!(inR x 0 3 && inR y 0 7)))) 0 0 (fun _ => False) := by
  refine Met.ofG (own := R_MM) (by decide +kernel) rfl (Nat.le_of_ble_eq_true rfl) ?_
  intro p e s m below meth c ls hx hb hr hlk hml hown hnm hts hI hl
  have hl : lv_has ls 2 [(0, .int x), (1, .int y)] := hl
  refine lv_iload_n hx hb d_MM_bad_0 rfl (lv_at hl 0 rfl) ?_
  refine lv_if_lt (tgt := 19) hx hb d_MM_bad_1 (by decide) (fun c1 => ?_) (fun c1 => ?_)
  · skip
    refine lv_iconst (v := 1) hx hb d_MM_bad_19 (by decide) ?_
    refine lv_goto (tgt := 24) hx hb d_MM_bad_20 (by decide) ?_
    exact W.zret hx hb hr rfl (fun t ht _ => ⟨_, rfl, (by simp_all [inR, bI, ← Int32.not_lt]), ht⟩) (fun _ h => nomatch h) d_MM_bad_24
  · skip
    refine lv_iload_n hx hb d_MM_bad_4 rfl (lv_at hl 0 rfl) ?_
    refine lv_iconst (v := 3) hx hb d_MM_bad_5 (by decide) ?_
    refine lv_icmp_gt (tgt := 19) hx hb d_MM_bad_6 (by decide) (fun c2 => ?_) (fun c2 => ?_)
    · skip
      refine lv_iconst (v := 1) hx hb d_MM_bad_19 (by decide) ?_
      refine lv_goto (tgt := 24) hx hb d_MM_bad_20 (by decide) ?_
      exact W.zret hx hb hr rfl (fun t ht _ => ⟨_, rfl, (by simp_all [inR, bI, ← Int32.not_lt]), ht⟩) (fun _ h => nomatch h) d_MM_bad_24
    · skip
      refine lv_iload_n hx hb d_MM_bad_9 rfl (lv_at hl 1 rfl) ?_
      refine lv_if_lt (tgt := 19) hx hb d_MM_bad_10 (by decide) (fun c3 => ?_) (fun c3 => ?_)
      · skip
        refine lv_iconst (v := 1) hx hb d_MM_bad_19 (by decide) ?_
        refine lv_goto (tgt := 24) hx hb d_MM_bad_20 (by decide) ?_
        exact W.zret hx hb hr rfl (fun t ht _ => ⟨_, rfl, (by simp_all [inR, bI, ← Int32.not_lt]), ht⟩) (fun _ h => nomatch h) d_MM_bad_24
      · skip
        refine lv_iload_n hx hb d_MM_bad_13 rfl (lv_at hl 1 rfl) ?_
        refine lv_bipush (v := 7) hx hb d_MM_bad_14 (by decide) ?_
        refine lv_icmp_le (tgt := 23) hx hb d_MM_bad_16 (by decide) (fun c4 => ?_) (fun c4 => ?_)
        · skip
          refine lv_iconst (v := 0) hx hb d_MM_bad_23 (by decide) ?_
          exact W.zret hx hb hr rfl (fun t ht _ => ⟨_, rfl, (by simp_all [inR, bI, ← Int32.not_lt]), ht⟩) (fun _ h => nomatch h) d_MM_bad_24
        · skip
          refine lv_iconst (v := 1) hx hb d_MM_bad_19 (by decide) ?_
          refine lv_goto (tgt := 24) hx hb d_MM_bad_20 (by decide) ?_
          exact W.zret hx hb hr rfl (fun t ht _ => ⟨_, rfl, (by simp_all [inR, bI, ← Int32.not_lt]), ht⟩) (fun _ h => nomatch h) d_MM_bad_24
set_option maxHeartbeats 4000000 in
set_option maxRecDepth 100000 in
theorem c_MM_fits (l : Launch)  {k : Int32} (hk : inR k 0 5 = true) (v x : Int32) : Met l y_MM_fits (Cond.code y_MM_fits b_MM_fits 3 (some .boolean) :: TT) ({ frames := 0, cells := 0, slots := 0, locals := 0 }) (va_Pc [.int k, .int v, .int x] (fun _ => True)) (vp_Si (fun r => r = bI (fit1 k v x))) 0 0 (fun _ => False) := by
  refine Met.ofG (own := R_MM) (by decide +kernel) rfl (Nat.le_of_ble_eq_true rfl) ?_
  intro p e s m below meth c ls hx hb hr hlk hml hown hnm hts hI hl
  have hl : lv_has ls 3 [(0, .int k), (1, .int v), (2, .int x)] := hl
  refine lv_iload_n hx hb d_MM_fits_0 rfl (lv_at hl 0 rfl) ?_
  by_cases c1 : k = 0
  · refine lv_tableIn (off := 35) (tgt := 36) hx hb d_MM_fits_1 (by rw [c1]; decide) (by rw [c1]; decide) (by rw [c1]; rfl) (by decide) ?_
    refine lv_iconst (v := 1) hx hb d_MM_fits_36 (by decide) ?_
    exact W.zret hx hb hr rfl (fun t ht _ => ⟨_, rfl, (by simp_all [fit1, bI, ← Int32.not_lt]), ht⟩) (fun _ h => nomatch h) d_MM_fits_37
  by_cases c2 : k = 1
  · refine lv_tableIn (off := 37) (tgt := 38) hx hb d_MM_fits_1 (by rw [c2]; decide) (by rw [c2]; decide) (by rw [c2]; rfl) (by decide) ?_
    refine lv_iload_n hx hb d_MM_fits_38 rfl (lv_at hl 2 rfl) ?_
    refine lv_iload_n hx hb d_MM_fits_39 rfl (lv_at hl 1 rfl) ?_
    refine lv_icmp_ne (tgt := 47) hx hb d_MM_fits_40 (by decide) (fun c3 => ?_) (fun c3 => ?_)
    · skip
      refine lv_iconst (v := 0) hx hb d_MM_fits_47 (by decide) ?_
      exact W.zret hx hb hr rfl (fun t ht _ => ⟨_, rfl, (by simp_all [fit1, bI, ← Int32.not_lt]), ht⟩) (fun _ h => nomatch h) d_MM_fits_48
    · skip
      refine lv_iconst (v := 1) hx hb d_MM_fits_43 (by decide) ?_
      refine lv_goto (tgt := 48) hx hb d_MM_fits_44 (by decide) ?_
      exact W.zret hx hb hr rfl (fun t ht _ => ⟨_, rfl, (by simp_all [fit1, bI, ← Int32.not_lt]), ht⟩) (fun _ h => nomatch h) d_MM_fits_48
  by_cases c4 : k = 2
  · refine lv_tableIn (off := 48) (tgt := 49) hx hb d_MM_fits_1 (by rw [c4]; decide) (by rw [c4]; decide) (by rw [c4]; rfl) (by decide) ?_
    refine lv_iload_n hx hb d_MM_fits_49 rfl (lv_at hl 2 rfl) ?_
    refine lv_iload_n hx hb d_MM_fits_50 rfl (lv_at hl 1 rfl) ?_
    refine lv_icmp_eq (tgt := 58) hx hb d_MM_fits_51 (by decide) (fun c5 => ?_) (fun c5 => ?_)
    · skip
      refine lv_iconst (v := 0) hx hb d_MM_fits_58 (by decide) ?_
      exact W.zret hx hb hr rfl (fun t ht _ => ⟨_, rfl, (by simp_all [fit1, bI, ← Int32.not_lt]), ht⟩) (fun _ h => nomatch h) d_MM_fits_59
    · skip
      refine lv_iconst (v := 1) hx hb d_MM_fits_54 (by decide) ?_
      refine lv_goto (tgt := 59) hx hb d_MM_fits_55 (by decide) ?_
      exact W.zret hx hb hr rfl (fun t ht _ => ⟨_, rfl, (by simp_all [fit1, bI, ← Int32.not_lt]), ht⟩) (fun _ h => nomatch h) d_MM_fits_59
  by_cases c6 : k = 3
  · refine lv_tableIn (off := 59) (tgt := 60) hx hb d_MM_fits_1 (by rw [c6]; decide) (by rw [c6]; decide) (by rw [c6]; rfl) (by decide) ?_
    refine lv_iload_n hx hb d_MM_fits_60 rfl (lv_at hl 2 rfl) ?_
    refine lv_iload_n hx hb d_MM_fits_61 rfl (lv_at hl 1 rfl) ?_
    refine lv_icmp_ge (tgt := 69) hx hb d_MM_fits_62 (by decide) (fun c7 => ?_) (fun c7 => ?_)
    · skip
      refine lv_iconst (v := 0) hx hb d_MM_fits_69 (by decide) ?_
      exact W.zret hx hb hr rfl (fun t ht _ => ⟨_, rfl, (by simp_all [fit1, bI, ← Int32.not_lt]), ht⟩) (fun _ h => nomatch h) d_MM_fits_70
    · skip
      refine lv_iconst (v := 1) hx hb d_MM_fits_65 (by decide) ?_
      refine lv_goto (tgt := 70) hx hb d_MM_fits_66 (by decide) ?_
      exact W.zret hx hb hr rfl (fun t ht _ => ⟨_, rfl, (by simp_all [fit1, bI, ← Int32.not_lt]), ht⟩) (fun _ h => nomatch h) d_MM_fits_70
  by_cases c8 : k = 4
  · refine lv_tableIn (off := 70) (tgt := 71) hx hb d_MM_fits_1 (by rw [c8]; decide) (by rw [c8]; decide) (by rw [c8]; rfl) (by decide) ?_
    refine lv_iload_n hx hb d_MM_fits_71 rfl (lv_at hl 2 rfl) ?_
    refine lv_iload_n hx hb d_MM_fits_72 rfl (lv_at hl 1 rfl) ?_
    refine lv_icmp_le (tgt := 80) hx hb d_MM_fits_73 (by decide) (fun c9 => ?_) (fun c9 => ?_)
    · skip
      refine lv_iconst (v := 0) hx hb d_MM_fits_80 (by decide) ?_
      exact W.zret hx hb hr rfl (fun t ht _ => ⟨_, rfl, (by simp_all [fit1, bI, ← Int32.not_lt]), ht⟩) (fun _ h => nomatch h) d_MM_fits_81
    · skip
      refine lv_iconst (v := 1) hx hb d_MM_fits_76 (by decide) ?_
      refine lv_goto (tgt := 81) hx hb d_MM_fits_77 (by decide) ?_
      exact W.zret hx hb hr rfl (fun t ht _ => ⟨_, rfl, (by simp_all [fit1, bI, ← Int32.not_lt]), ht⟩) (fun _ h => nomatch h) d_MM_fits_81
  refine lv_tableOut (tgt := 82) hx hb d_MM_fits_1 (by have q0 := lv_neT c1 (show (0 : Int32).toInt = 0 by decide); have q1 := lv_neT c2 (show (1 : Int32).toInt = 1 by decide); have q2 := lv_neT c4 (show (2 : Int32).toInt = 2 by decide); have q3 := lv_neT c6 (show (3 : Int32).toInt = 3 by decide); have q4 := lv_neT c8 (show (4 : Int32).toInt = 4 by decide); omega) (by decide) ?_
  have hk5 := k5 hk c1 c2 c4 c6 c8
  refine lv_iload_n hx hb d_MM_fits_82 rfl (lv_at hl 2 rfl) ?_
  refine lv_iconst (v := 3) hx hb d_MM_fits_83 (by decide) ?_
  refine lv_iand hx hb d_MM_fits_84 ?_
  refine lv_iload_n hx hb d_MM_fits_85 rfl (lv_at hl 1 rfl) ?_
  refine lv_iconst (v := 3) hx hb d_MM_fits_86 (by decide) ?_
  refine lv_iand hx hb d_MM_fits_87 ?_
  refine lv_icmp_ne (tgt := 95) hx hb d_MM_fits_88 (by decide) (fun c11 => ?_) (fun c11 => ?_)
  · skip
    refine lv_iconst (v := 0) hx hb d_MM_fits_95 (by decide) ?_
    exact W.zret hx hb hr rfl (fun t ht _ => ⟨_, rfl, (by simp_all [fit1, bI, ← Int32.not_lt]), ht⟩) (fun _ h => nomatch h) d_MM_fits_96
  · skip
    refine lv_iconst (v := 1) hx hb d_MM_fits_91 (by decide) ?_
    refine lv_goto (tgt := 96) hx hb d_MM_fits_92 (by decide) ?_
    exact W.zret hx hb hr rfl (fun t ht _ => ⟨_, rfl, (by simp_all [fit1, bI, ← Int32.not_lt]), ht⟩) (fun _ h => nomatch h) d_MM_fits_96
set_option maxHeartbeats 4000000 in
set_option maxRecDepth 100000 in
theorem c_MM_uses (l : Launch) {D : va_G} {cI cZ cO cL : ClassId} {b e0 : Nat} {A : gW} {h : Nat} {ad : Nat → Nat} {F : Nat → Nat → Int32} {G : Nat → Int64} {bn rn nn m1 : Nat} (hM : rMM cI cZ cL A h ad F G bn rn nn m1) {a : Nat → Nat} (ha : ∀ k, a k ≤ 1000) {n0 r : Nat} (hn0 : n0 ≤ 160) (hr0 : r < 24) (hu : ∀ k, k < n0 → F 18 k = nI (a k) - 1) : Met l y_MM_uses (Cond.code y_MM_uses b_MM_uses 5 (some .int) :: TT) ({ frames := 0, cells := 0, slots := 0, locals := 0 }) (va_Pc [.ref h, .int (nI r), .int (nI n0)] (gI D [(cI, .int), (cZ, .boolean), (cO, .object "java/lang/Object"), (cL, .long)] b e0 A)) (vp_Si (fun z => z = nI (cnt (fun k => decide (a k = r + 1)) n0))) 0 0 (fun _ => False) := by
  refine Met.ofG (own := R_MM) (by decide +kernel) rfl (Nat.le_of_ble_eq_true rfl) ?_
  intro p e s m below meth c ls hx hb hr hlk hml hown hnm hts hI hl
  have hl : lv_has ls 5 [(0, .ref h), (1, .int (nI r)), (2, .int (nI n0))] := hl
  obtain ⟨hP, hK⟩ := hI
  refine lv_iconst (v := 0) hx hb d_MM_uses_0 (by decide) ?_
  refine lv_istore_n (lv' := [(3, .int 0), (0, .ref h), (1, .int (nI r)), (2, .int (nI n0))]) hx hb d_MM_uses_1 rfl hl (by decide) rfl (fun ls hl => ?_)
  refine lv_iconst (v := 0) hx hb d_MM_uses_2 (by decide) ?_
  refine lv_istore (lv' := [(4, .int 0), (3, .int 0), (0, .ref h), (1, .int (nI r)), (2, .int (nI n0))]) hx hb d_MM_uses_3 hl (by decide) rfl (fun ls hl => ?_)
  obtain ⟨i, hi0⟩ : ∃ z : Nat, z = 0 := ⟨_, rfl⟩
  obtain ⟨cn, hcn0⟩ : ∃ z : Nat, z = 0 := ⟨_, rfl⟩
  obtain ⟨n, hn⟩ : ∃ z : Nat, i + z = n0 := ⟨n0 - i, by omega⟩
  replace hl : lv_has ls 5 [(4, .int (nI i)), (3, .int (nI cn)), (0, .ref h), (1, .int (nI r)), (2, .int (nI n0))] := by rw [hi0, hcn0, nI_0]; exact hl
  have hinv : cn = cnt (fun k => decide (a k = r + 1)) i := by subst hi0 hcn0; rfl
  clear hi0 hcn0
  induction n generalizing i cn ls with
  | zero =>
    refine lv_iload hx hb d_MM_uses_5 (lv_at hl 0 rfl) ?_
    refine lv_iload_n hx hb d_MM_uses_7 rfl (lv_at hl 4 rfl) ?_
    refine lv_icmp_ge (tgt := 31) hx hb d_MM_uses_8 (by decide) (fun _ => ?_) (fun h9 => absurd (nI_le (show n0 ≤ i by omega) (by omega)) h9)
    refine lv_iload_n hx hb d_MM_uses_31 rfl (lv_at hl 1 rfl) ?_
    exact W.iret hx hb hr (fun t ht _ => ⟨_, rfl, (by rw [hinv, show i = n0 by omega]), ht⟩) (fun _ h => nomatch h) d_MM_uses_32
  | succ n ih =>
    refine lv_iload hx hb d_MM_uses_5 (lv_at hl 0 rfl) ?_
    refine lv_iload_n hx hb d_MM_uses_7 rfl (lv_at hl 4 rfl) ?_
    refine lv_icmp_ge (tgt := 31) hx hb d_MM_uses_8 (by decide) (fun h9 => absurd h9 (nI_ge (show i < n0 by omega) (by omega))) (fun _ => ?_)
    refine lv_aload_n hx hb d_MM_uses_11 rfl (lv_at hl 2 rfl) ?_
    refine g_get hx hb hts i_MM hown hK.1 hP (show A (20, 0) = some (h, .inr (5, [.ref (ad 0), .ref (ad 1), .int (nI bn), .ref (ad 3), .ref (ad 4), .ref (ad 5), .ref (ad 6), .ref (ad 7), .ref (ad 8), .ref (ad 9), .ref (ad 10), .int (nI rn), .ref (ad 12), .ref (ad 13), .ref (ad 14), .ref (ad 15), .ref (ad 16), .ref (ad 17), .ref (ad 18), .ref (ad 19), .ref (ad 20), .ref (ad 21), .int (nI nn), .int (nI m1 - 1)])) from hM.1) rfl 18 (by decide) (hts _ k_461) (fun _ h9 => h9) rfl d_MM_uses_12 ?_
    refine lv_iload hx hb d_MM_uses_15 (lv_at hl 0 rfl) ?_
    refine g_iald (v := nI (a i) - 1) hx hb hK.1 hP 0 (show A (39, 0) = some (ad 18, .inl (cI, 160, .inl (F 18))) from hM.2.1 18 rfl) rfl (vp_in_nI (show i < 160 by omega) (by omega)) (by rw [(nI_clamp (show i < 2 ^ 31 by omega))]; exact hu i (by omega)) d_MM_uses_17 ?_
    refine lv_iload_n hx hb d_MM_uses_18 rfl (lv_at hl 3 rfl) ?_
    refine lv_icmp_ne (tgt := 25) hx hb d_MM_uses_19 (by decide) (fun c3 => ?_) (fun c3 => ?_)
    · skip
      rw [nIm1 (by have := ha i; omega) (by omega)] at c3
      refine lv_iinc (v := nI (i + 1)) (lv' := [(4, .int (nI (i + 1))), (3, .int (nI cn)), (0, .ref h), (1, .int (nI r)), (2, .int (nI n0))]) hx hb d_MM_uses_25 hl (k := 0) rfl (nI_1 _) (by decide) rfl (fun ls hl => ?_)
      refine lv_goto (tgt := 5) hx hb d_MM_uses_28 (by decide) ?_
      exact ih _ _ _ (by omega) (lv_sub hl [0, 1, 2, 3, 4] rfl) (by simp_all [cnt])
    · skip
      rw [nIm1 (by have := ha i; omega) (by omega)] at c3
      refine lv_iinc (v := nI (cn + 1)) (lv' := [(3, .int (nI (cn + 1))), (4, .int (nI i)), (0, .ref h), (1, .int (nI r)), (2, .int (nI n0))]) hx hb d_MM_uses_22 hl (k := 1) rfl (nI_1 _) (by decide) rfl (fun ls hl => ?_)
      refine lv_iinc (v := nI (i + 1)) (lv' := [(4, .int (nI (i + 1))), (3, .int (nI (cn + 1))), (0, .ref h), (1, .int (nI r)), (2, .int (nI n0))]) hx hb d_MM_uses_25 hl (k := 1) rfl (nI_1 _) (by decide) rfl (fun ls hl => ?_)
      refine lv_goto (tgt := 5) hx hb d_MM_uses_28 (by decide) ?_
      exact ih _ _ _ (by omega) (lv_sub hl [0, 1, 2, 3, 4] rfl) (by simp_all [cnt])
