theorem gI.preM {D : va_G} {tys : List (ClassId × FieldType)} {b e0 : Nat} {A : gW} {s : State} {H : Heap} {locs : List Loc} {C : String} {mi : Nat} (hK : gK D tys b e0 s s.heap) (hS : gS b s.heap H locs) (hP : gP D classes b A H) (hm : va_Mi C mi s) (As : List Value) : PreS s H (va_Pc As (fun U => gI D tys b e0 A U ∧ va_Mi C mi U)) As :=
  ⟨fun a U g mk q => ⟨q.1, ((gI.pre hK hS hP As).1 a U g mk ⟨q.1, q.2.1⟩).2, va_Mi.moved (u := U) (U := U.calling g mk a) (Vm.Alike.refl U.vm) q.2.2⟩, fun U hU hW => ⟨rfl, ((gI.pre hK hS hP As).2 U hU hW).2, va_Mi.moved hW.alike hm⟩⟩
set_option maxHeartbeats 4000000 in
set_option maxRecDepth 100000 in
theorem c_As_newLength (l : Launch)  {n : Nat} (h2 : 2 ≤ n) (h3 : n ≤ 240) : Met l y_As_newLength (Cond.code y_As_newLength b_As_newLength 4 (some .int) :: TT) ({ frames := 1, cells := 0, slots := 0, locals := 14 }) (va_Pc [.int (nI n), .int (nI 1), .int (nI (n / 2))] (fun _ => True)) (vp_Si (fun r => r = nI (n + n / 2))) 0 0 (fun _ => False) := by
  refine Met.ofG (own := R_As) (by decide +kernel) rfl (Nat.le_of_ble_eq_true rfl) ?_
  intro p e s m below meth c ls hx hb hr hlk hml hown hnm hts hI hl
  have hl : lv_has ls 4 [(0, .int (nI n)), (1, .int (nI 1)), (2, .int (nI (n / 2)))] := hl
  refine lv_iload_n hx hb d_As_newLength_0 rfl (lv_at hl 0 rfl) ?_
  refine lv_iload_n hx hb d_As_newLength_1 rfl (lv_at hl 1 rfl) ?_
  refine lv_iload_n hx hb d_As_newLength_2 rfl (lv_at hl 2 rfl) ?_
  refine va_mmax hx hb (hml.trans hl.1.symm) hown (hts _ k_180) (hts _ k_181) (hts _ k_9) (hts _ k_182) (by decide) (Nat.le_of_ble_eq_true rfl) (by decide) (by decide) d_As_newLength_3 ?_
  refine lv_iadd hx hb d_As_newLength_6 ?_
  rw [grw h2 (by omega)]
  refine lv_istore_n (lv' := [(3, .int (nI (n + n / 2))), (0, .int (nI n)), (1, .int (nI 1)), (2, .int (nI (n / 2)))]) hx hb d_As_newLength_7 rfl hl (by decide) rfl (fun ls hl => ?_)
  refine lv_iconst (v := 0) hx hb d_As_newLength_8 (by decide) ?_
  refine lv_iload_n hx hb d_As_newLength_9 rfl (lv_at hl 0 rfl) ?_
  refine lv_icmp_ge (tgt := 21) hx hb d_As_newLength_10 (by decide) (fun h9 => absurd h9 (nI_nle (show 0 < n + n / 2 by omega) (by omega))) (fun _ => ?_)
  refine lv_iload_n hx hb d_As_newLength_13 rfl (lv_at hl 0 rfl) ?_
  refine lv_ldc (v := 2147483639) hx hb hown (hts _ k_183) d_As_newLength_14 ?_
  refine lv_icmp_gt (tgt := 21) hx hb d_As_newLength_16 (by decide) (fun h9 => absurd h9 (nI_nlt (a := 2147483639) (b := n + n / 2) (by omega) (by decide))) (fun _ => ?_)
  refine lv_iload_n hx hb d_As_newLength_19 rfl (lv_at hl 0 rfl) ?_
  exact W.iret hx hb hr (fun t ht _ => ⟨_, rfl, rfl, ht⟩) (fun _ h => nomatch h) d_As_newLength_20
set_option maxHeartbeats 4000000 in
set_option maxRecDepth 100000 in
theorem c_Ar_copyOf3 (l : Launch) {D : va_G} {cI cZ cO cL : ClassId} {b e0 : Nat} {A : gW} {w a n k2 kk ci mi : Nat} {f : Nat → Option Nat} {ad : Nat → Nat} (fA : A (2, w) = some (a, .inl (cO, n, .inr (.inr (.inr (.inr f)))))) (hn0 : 0 < n) (hnk : n ≤ k2) (hk2 : k2 ≤ 240) (hkk : kk ≠ 12) (hci : ci = 2 ∨ ci = 3) (hfi : ∀ i, i < n → f i = some (ad i)) (hel : ∀ i, i < n → ∃ fs, A (kk, i) = some (ad i, .inr (ci, fs))) : Met l y_Ar_copyOf3 (Cond.code y_Ar_copyOf3 b_Ar_copyOf3 4 (some (.array (.object "java/lang/Object"))) :: TT) ({ frames := 1, cells := 1, slots := 240, locals := 40 }) (va_Pc [.ref a, .int (nI k2), .ref mi] (fun U => gI D [(cI, .int), (cZ, .boolean), (cO, .object "java/lang/Object"), (cL, .long)] b e0 A U ∧ va_Mi "[Ljava/lang/Object;" mi U)) (va_Qr (fun _ : gW => True) (fun A2 r t => gP D classes b A2 t.heap ∧ A2 (12, w) = some (r, .inl (cO, k2, .inr (.inr (.inr (.inr (va_cpy f (fun _ => none) 0 0 n)))))) ∧ gF [12] w A A2) (fun q => b ≤ q)) 1 240 (fun q => b ≤ q) := by
  refine Met.ofG (own := R_Ar) (by decide +kernel) rfl (Nat.le_of_ble_eq_true rfl) ?_
  intro p e s m below meth c ls hx hb hr hlk hml hown hnm hts hI hl
  have hl : lv_has ls 4 [(0, .ref a), (1, .int (nI k2)), (2, .ref mi)] := hl
  have hS : gS b s.heap s.heap [] := va_S.rf
  obtain ⟨⟨hP, hK⟩, hmi⟩ := hI
  obtain ⟨kA9, comp9, -, -, -, hOb⟩ := (hK.1.2 2 _ rfl).2
  refine lv_aload_n hx hb d_Ar_copyOf3_0 rfl (lv_at hl 2 rfl) ?_
  refine va_ldcM hx hb hown (hts _ k_203) hmi d_Ar_copyOf3_1 ?_
  refine lv_acmp_ne (rx := some mi) (ry := some mi) (tgt := 13) hx hb d_Ar_copyOf3_3 (by decide) (fun h9 => absurd rfl h9) (fun _ => ?_)
  refine lv_iload_n hx hb d_Ar_copyOf3_6 rfl (lv_at hl 1 rfl) ?_
  refine g_newq hx hb hown (hts _ k_205) hK.2.2.1 hP hS (12, w) hOb (nI_pos (show k2 < 2 ^ 31 by omega)) (nI_clamp (show k2 < 2 ^ 31 by omega)) (by omega) (by decide) (by show 0 + k2 ≤ 240; omega) d_Ar_copyOf3_7 (fun q H hP hS ho hz hq => ?_)
  refine W.widen (k := 1) (n := 240) (by decide) (by omega) ?_
  obtain ⟨A1, eA1⟩ : ∃ z, z = gU A (12, w) (q, .inl (cO, k2, .inr (.inr (.inr (.inr (fun _ => none)))))) := ⟨_, rfl⟩
  replace hP : gP D classes b A1 H := by rw [eA1]; exact hP
  have f2 : A1 (2, w) = some (a, .inl (cO, n, .inr (.inr (.inr (.inr f))))) := (by rw [eA1]; exact gU_n (gne (show (2 : Nat) ≠ 12 by decide)) : A1 (2, w) = A (2, w)).trans fA
  have f3 : A1 (12, w) = some (q, .inl (cO, k2, .inr (.inr (.inr (.inr (fun _ => none)))))) := by rw [eA1]; exact gU_s
  have gA1 : gF [12] w A A1 := by rw [eA1]; exact gF_U gF.rf (by decide)
  refine lv_goto (tgt := 24) hx hb d_Ar_copyOf3_10 (by decide) ?_
  refine lv_astore_n (lv' := [(3, .ref q), (0, .ref a), (1, .int (nI k2)), (2, .ref mi)]) hx hb d_Ar_copyOf3_24 rfl hl (by decide) rfl (fun ls hl => ?_)
  refine lv_aload_n hx hb d_Ar_copyOf3_25 rfl (lv_at hl 1 rfl) ?_
  refine lv_iconst (v := 0) hx hb d_Ar_copyOf3_26 (by decide) ?_
  refine lv_aload_n hx hb d_Ar_copyOf3_27 rfl (lv_at hl 0 rfl) ?_
  refine lv_iconst (v := 0) hx hb d_Ar_copyOf3_28 (by decide) ?_
  refine lv_aload_n hx hb d_Ar_copyOf3_29 rfl (lv_at hl 1 rfl) ?_
  refine g_alen (v := nI (n)) hx hb hK.1 hP 2 f2 rfl rfl d_Ar_copyOf3_30 ?_
  refine lv_iload_n hx hb d_Ar_copyOf3_31 rfl (lv_at hl 2 rfl) ?_
  refine va_mmin hx hb (hml.trans hl.1.symm) hown (hts _ k_206) (hts _ k_207) (hts _ k_9) (hts _ k_208) (by decide) (Nat.le_of_ble_eq_true rfl) (by decide) (by decide) d_Ar_copyOf3_32 ?_
  rw [if_neg (nI_nlt (show n ≤ k2 by omega) (by omega))]
  refine g_copy hx hb (hml.trans hl.1.symm) hown (hts _ k_209) (hts _ k_211) (hts _ k_210) (hts _ k_11) hK.1 hP hS 2 f2 f3 (gne (show (2 : Nat) ≠ 12 by decide)) (by omega) (by omega) rfl (k := n) (Nat.le_refl n) (by omega) (by omega) (fun i hi y hy => by obtain ⟨fs, hfs⟩ := hel i hi; rw [hfi i hi] at hy; cases hy; exact g_any hK hP ((by rw [eA1]; exact gU_n (gne (show kk ≠ 12 by omega)) : A1 (kk, i) = A (kk, i)).trans hfs) hci) (by decide) (Nat.le_of_ble_eq_true rfl) d_Ar_copyOf3_35 (fun H locs hP hS => ?_)
  obtain ⟨A4, eA4⟩ : ∃ z, z = gU A1 (12, w) (q, .inl (cO, k2, .inr (.inr (.inr (.inr (va_cpy f (fun _ => none) 0 0 n)))))) := ⟨_, rfl⟩
  replace hP : gP D classes b A4 H := by rw [eA4]; exact hP
  have f5 : A4 (2, w) = some (a, .inl (cO, n, .inr (.inr (.inr (.inr f))))) := (by rw [eA4]; exact gU_n (gne (show (2 : Nat) ≠ 12 by decide)) : A4 (2, w) = A1 (2, w)).trans f2
  have f6 : A4 (12, w) = some (q, .inl (cO, k2, .inr (.inr (.inr (.inr (va_cpy f (fun _ => none) 0 0 n)))))) := by rw [eA4]; exact gU_s
  have gA4 : gF [12] w A A4 := by rw [eA4]; exact gF_U gA1 (by decide)
  refine lv_aload_n hx hb d_Ar_copyOf3_38 rfl (lv_at hl 0 rfl) ?_
  refine W.widen (k := 1) (n := 240) (by decide) (by decide) ?_
  exact W.aret hx hb hr (Or.inr ⟨_, rfl⟩) (Or.inr ⟨_, rfl⟩) (fun t ht _ => ⟨⟨A4, q, rfl, trivial, ⟨(show gP D classes b A4 t.heap by rw [ht]; exact hP), f6, gA4⟩⟩, hS.F ht⟩) hS.2.2 d_Ar_copyOf3_39
set_option maxHeartbeats 4000000 in
set_option maxRecDepth 100000 in
theorem c_Ar_copyOf (l : Launch) {D : va_G} {cI cZ cO cL : ClassId} {b e0 : Nat} {A : gW} {w a n k2 kk ci : Nat} {f : Nat → Option Nat} {ad : Nat → Nat} (fA : A (2, w) = some (a, .inl (cO, n, .inr (.inr (.inr (.inr f)))))) (hn0 : 0 < n) (hnk : n ≤ k2) (hk2 : k2 ≤ 240) (hkk : kk ≠ 12) (hci : ci = 2 ∨ ci = 3) (hfi : ∀ i, i < n → f i = some (ad i)) (hel : ∀ i, i < n → ∃ fs, A (kk, i) = some (ad i, .inr (ci, fs))) : Met l y_Ar_copyOf (Cond.code y_Ar_copyOf b_Ar_copyOf 2 (some (.array (.object "java/lang/Object"))) :: TT) ({ frames := 2, cells := 1, slots := 240, locals := 63 }) (va_Pc [.ref a, .int (nI k2)] (gI D [(cI, .int), (cZ, .boolean), (cO, .object "java/lang/Object"), (cL, .long)] b e0 A)) (va_Qr (fun _ : gW => True) (fun A2 r t => gP D classes b A2 t.heap ∧ A2 (12, w) = some (r, .inl (cO, k2, .inr (.inr (.inr (.inr (va_cpy f (fun _ => none) 0 0 n)))))) ∧ gF [12] w A A2) (fun q => b ≤ q)) 1 240 (fun q => b ≤ q) := by
  refine Met.ofG (own := R_Ar) (by decide +kernel) rfl (Nat.le_of_ble_eq_true rfl) ?_
  intro p e s m below meth c ls hx hb hr hlk hml hown hnm hts hI hl
  have hl : lv_has ls 2 [(0, .ref a), (1, .int (nI k2))] := hl
  have hS : gS b s.heap s.heap [] := va_S.rf
  obtain ⟨hP, hK⟩ := hI
  obtain ⟨mi, hmi⟩ := hK.2.2.2.2.2
  refine lv_aload_n hx hb d_Ar_copyOf_0 rfl (lv_at hl 0 rfl) ?_
  refine lv_iload_n hx hb d_Ar_copyOf_1 rfl (lv_at hl 1 rfl) ?_
  refine lv_aload_n hx hb d_Ar_copyOf_2 rfl (lv_at hl 0 rfl) ?_
  refine va_getC hx hb (hml.trans hl.1.symm) hown (hts _ k_190) (va_Dc.use hK.2.2.2.2.1) (hts _ k_618) (hts _ k_191) (hts _ k_199) hmi ⟨_, hP.va fA (gEq hn0), rfl, va_nmO (hK.1.2 2 _ rfl).2 (by decide)⟩ (by decide) (Nat.le_of_ble_eq_true rfl) d_Ar_copyOf_3 ?_
  refine g_cr (B := fun A2 r H => gP D classes b A2 H ∧ A2 (12, w) = some (r, .inl (cO, k2, .inr (.inr (.inr (.inr (va_cpy f (fun _ => none) 0 0 n)))))) ∧ gF [12] w A A2) (g_runS (As := [.ref a, .int (nI k2), .ref mi]) (rest := []) ⟨hx, hb, hml, hown, hts⟩ (c_Ar_copyOf3 l (mi := mi) fA hn0 hnk hk2 hkk hci hfi hel) st_Ar_copyOf3 k_200 ⟨rfl, rfl, by decide, by decide⟩ (gI.preM hK hS hP hmi _) rfl hl.1 rfl (Nat.le_of_ble_eq_true rfl) d_Ar_copyOf_6 ⟨by decide, by decide⟩) hS (fun A1 r H locs _ hp2 hS => ?_)
  obtain ⟨hP, fN, gN1⟩ := hp2
  refine W.widen (k := 1) (n := 240) (by decide) (by decide) ?_
  have f3 : A1 (2, w) = some (a, .inl (cO, n, .inr (.inr (.inr (.inr f))))) := (gN1.at (n := 2) (j := w) (by decide)).trans fA
  refine W.widen (k := 1) (n := 240) (by decide) (by decide) ?_
  exact W.aret hx hb hr (Or.inr ⟨_, rfl⟩) (Or.inr ⟨_, rfl⟩) (fun t ht _ => ⟨⟨A1, r, rfl, trivial, ⟨(show gP D classes b A1 t.heap by rw [ht]; exact hP), fN, gN1⟩⟩, hS.F ht⟩) hS.2.2 d_Ar_copyOf_9
