theorem shr1 {n : Nat} (h : n < 2 ^ 31) : nI n >>> ((1 : Int32) &&& 31) = nI (n / 2) := by
  have k := pk_shrN h ((1 : Int32) &&& 31) 1 (by decide)
  rw [Nat.pow_one] at k
  exact k
theorem sub1 (n : Nat) : nI (n + 1) - nI n = nI 1 := by
  have k := pk_sub (a := n + 1) (b := n) (by omega)
  rw [Nat.add_sub_cancel_left] at k
  exact k
theorem max10 : (if (10 : Int32) < nI 1 then nI 1 else 10) = nI 10 := by decide
theorem gRen_n {A : gW} {n n' : gN} : gRen A n n' n = A n' := if_pos rfl
theorem gRen_o {A : gW} {n n' k : gN} (h1 : k ≠ n) (h2 : k ≠ n') : gRen A n n' k = A k := by unfold gRen; rw [if_neg h1, if_neg h2]
theorem gF.mono {ks ks' : List Nat} {i : Nat} {A A' : gW} (h : gF ks i A A') (hs : ∀ k ∈ ks, k ∈ ks') : gF ks' i A A' := fun k hk => h k (fun q => hk ⟨hs _ q.1, q.2⟩)
theorem gF.trans {ks : List Nat} {i : Nat} {A B C : gW} (h : gF ks i A B) (h2 : gF ks i B C) : gF ks i A C := fun k hk => (h2 k hk).trans (h k hk)
theorem gF.ren {ks : List Nat} {i a c : Nat} {A A1 : gW} (h : gF ks i A A1) (ha : a ∈ ks) (hc : c ∈ ks) : gF ks i A (gRen A1 (a, i) (c, i)) := fun k hk => by
  rw [gRen_o (fun e => hk (by rw [e]; exact ⟨ha, rfl⟩)) (fun e => hk (by rw [e]; exact ⟨hc, rfl⟩))]
  exact h k hk
theorem cpy_lt {f g : Nat → Option Nat} {n i : Nat} (h : i < n) : va_cpy f g 0 0 n i = f i := by
  rw [pk_cpy_in (Nat.zero_le _) (by omega)]
  congr 1
  omega
set_option maxHeartbeats 4000000 in
set_option maxRecDepth 100000 in
theorem c_AL_growI0 (l : Launch) {D : va_G} {cI cZ cO cL : ClassId} {b e0 : Nat} {A : gW} {w h : Nat} {mo : Int32} (f : Nat → Option Nat) (fL : A (1, w) = some (h, .inr (4, [.int mo, .ref e0, .int (nI 0)]))) (fE : A (3, 0) = some (e0, .inl (cO, 0, .inr (.inr (.inr (.inr fun _ => none)))))) : Met l y_AL_growI (Cond.code y_AL_growI b_AL_growI 4 (some (.array (.object "java/lang/Object"))) :: TT) ({ frames := 3, cells := 1, slots := 240, locals := 84 }) (va_Pc [.ref h, .int (nI 1)] (gI D [(cI, .int), (cZ, .boolean), (cO, .object "java/lang/Object"), (cL, .long)] b e0 A)) (va_Qr (fun _ : gW => True) (fun A2 r t => gP D classes b A2 t.heap ∧ A2 (1, w) = some (h, .inr (4, [.int mo, .ref r, .int (nI 0)])) ∧ (∃ (cap2 : Nat) (f2 : Nat → Option Nat), A2 (2, w) = some (r, .inl (cO, cap2, .inr (.inr (.inr (.inr f2))))) ∧ 2 ≤ cap2 ∧ cap2 ≤ 240 ∧ ∀ i, i < 0 → f2 i = f i) ∧ gF [1, 2, 12] w A A2) (fun q => b ≤ q)) 1 240 (fun q => b ≤ q) := by
  refine Met.ofG (own := R_AL) (by decide +kernel) rfl (Nat.le_of_ble_eq_true rfl) ?_
  intro p e s m below meth c ls hx hb hr hlk hml hown hnm hts hI hl
  have hl : lv_has ls 4 [(0, .ref h), (1, .int (nI 1))] := hl
  have hS : gS b s.heap s.heap [] := va_S.rf
  obtain ⟨hP, hK⟩ := hI
  obtain ⟨kA9, comp9, -, -, -, hOb⟩ := (hK.1.2 2 _ rfl).2
  refine lv_aload_n hx hb d_AL_growI_0 rfl (lv_at hl 0 rfl) ?_
  refine g_get hx hb hts i_AL hown hK.1 hP fL rfl 1 (by decide) (hts _ k_37) (fun _ h9 => h9) rfl d_AL_growI_1 ?_
  refine g_alen (v := nI (0)) hx hb hK.1 hP 2 fE rfl rfl d_AL_growI_4 ?_
  refine lv_istore_n (lv' := [(2, .int (nI (0))), (0, .ref h), (1, .int (nI 1))]) hx hb d_AL_growI_5 rfl hl (by decide) rfl (fun ls hl => ?_)
  refine lv_iload_n hx hb d_AL_growI_6 rfl (lv_at hl 0 rfl) ?_
  refine lv_if_gt (tgt := 20) hx hb d_AL_growI_7 (by decide) (fun h9 => absurd h9 (by decide)) (fun _ => ?_)
  refine lv_aload_n hx hb d_AL_growI_10 rfl (lv_at hl 1 rfl) ?_
  refine g_get hx hb hts i_AL hown hK.1 hP fL rfl 1 (by decide) (hts _ k_37) (fun _ h9 => h9) rfl d_AL_growI_11 ?_
  refine va_gets hx hb hK.2.2.2.1 hS hown (hts _ k_35) (fun _ h9 => h9) d_AL_growI_14 ?_
  refine lv_acmp_eq (rx := some e0) (ry := some e0) (tgt := 45) hx hb d_AL_growI_17 (by decide) (fun _ => ?_) (fun h9 => absurd rfl h9)
  refine lv_aload_n hx hb d_AL_growI_45 rfl (lv_at hl 1 rfl) ?_
  refine lv_bipush (v := 10) hx hb d_AL_growI_46 (by decide) ?_
  refine lv_iload_n hx hb d_AL_growI_48 rfl (lv_at hl 2 rfl) ?_
  refine va_mmax hx hb (hml.trans hl.1.symm) hown (hts _ k_212) (hts _ k_181) (hts _ k_9) (hts _ k_182) (by decide) (Nat.le_of_ble_eq_true rfl) (by decide) (by decide) d_AL_growI_49 ?_
  rw [max10]
  refine g_newq hx hb hown (hts _ k_213) hK.2.2.1 hP hS (2, w) hOb (nI_pos (show 10 < 2 ^ 31 by decide)) (nI_clamp (show 10 < 2 ^ 31 by decide)) (by decide) (by decide) (by decide) d_AL_growI_52 (fun q2 H hP hS ho hz hq => ?_)
  refine W.widen (k := 1) (n := 240) (by decide) (by decide) ?_
  obtain ⟨A3, eA3⟩ : ∃ z, z = gU A (2, w) (q2, .inl (cO, 10, .inr (.inr (.inr (.inr (fun _ => none)))))) := ⟨_, rfl⟩
  replace hP : gP D classes b A3 H := by rw [eA3]; exact hP
  have f4 : A3 (1, w) = some (h, .inr (4, [.int mo, .ref e0, .int (nI 0)])) := (by rw [eA3]; exact gU_n (gne (show (1 : Nat) ≠ 2 by decide)) : A3 (1, w) = A (1, w)).trans fL
  have f5 : A3 (3, 0) = some (e0, .inl (cO, 0, .inr (.inr (.inr (.inr (fun _ => none)))))) := (by rw [eA3]; exact gU_n (gne (show (3 : Nat) ≠ 2 by decide)) : A3 (3, 0) = A (3, 0)).trans fE
  have f6 : A3 (2, w) = some (q2, .inl (cO, 10, .inr (.inr (.inr (.inr (fun _ => none)))))) := by rw [eA3]; exact gU_s
  have gA3 : gF [1, 2, 12] w A A3 := by rw [eA3]; exact gF_U gF.rf (by decide)
  refine lv_dup_x1 hx hb d_AL_growI_55 rfl rfl ?_
  refine g_put (ty := (.array (.object "java/lang/Object"))) (v := .ref q2) hx hb hts i_AL t_AL t_AL_ok n_AL hown hK.1 hP hS f4 rfl 1 (by decide) (hts _ k_37) (fun _ h9 => h9) rfl (by decide +kernel) rfl rfl (Nat.le_of_ble_eq_true rfl) d_AL_growI_56 (fun H locs hP hS => ?_)
  obtain ⟨A7, eA7⟩ : ∃ z, z = gU A3 (1, w) (h, .inr (4, [.int mo, .ref q2, .int (nI 0)])) := ⟨_, rfl⟩
  replace hP : gP D classes b A7 H := by rw [eA7]; exact hP
  have f8 : A7 (3, 0) = some (e0, .inl (cO, 0, .inr (.inr (.inr (.inr (fun _ => none)))))) := (by rw [eA7]; exact gU_n (gne (show (3 : Nat) ≠ 1 by decide)) : A7 (3, 0) = A3 (3, 0)).trans f5
  have f9 : A7 (2, w) = some (q2, .inl (cO, 10, .inr (.inr (.inr (.inr (fun _ => none)))))) := (by rw [eA7]; exact gU_n (gne (show (2 : Nat) ≠ 1 by decide)) : A7 (2, w) = A3 (2, w)).trans f6
  have f10 : A7 (1, w) = some (h, .inr (4, [.int mo, .ref q2, .int (nI 0)])) := by rw [eA7]; exact gU_s
  have gA7 : gF [1, 2, 12] w A A7 := by rw [eA7]; exact gF_U gA3 (by decide)
  refine W.widen (k := 1) (n := 240) (by decide) (by decide) ?_
  exact W.aret hx hb hr (Or.inr ⟨_, rfl⟩) (Or.inr ⟨_, rfl⟩) (fun t ht _ => ⟨⟨A7, q2, rfl, trivial, ⟨(show gP D classes b A7 t.heap by rw [ht]; exact hP), f10, ⟨10, _, f9, by decide, by decide, fun i hi => absurd hi (Nat.not_lt_zero i)⟩, gA7⟩⟩, hS.F ht⟩) hS.2.2 d_AL_growI_59
set_option maxHeartbeats 4000000 in
set_option maxRecDepth 100000 in
theorem c_AL_growI (l : Launch) {D : va_G} {cI cZ cO cL : ClassId} {b e0 : Nat} {A : gW} {w h q n kk ci : Nat} {mo : Int32} {f : Nat → Option Nat} {ad : Nat → Nat} (fL : A (1, w) = some (h, .inr (4, [.int mo, .ref q, .int (nI n)]))) (fA : A (2, w) = some (q, .inl (cO, n, .inr (.inr (.inr (.inr f)))))) (hn2 : 2 ≤ n) (hn : n < 160) (hkk : kk ≠ 12) (hci : ci = 2 ∨ ci = 3) (hfi : ∀ i, i < n → f i = some (ad i)) (hel : ∀ i, i < n → ∃ fs, A (kk, i) = some (ad i, .inr (ci, fs))) : Met l y_AL_growI (Cond.code y_AL_growI b_AL_growI 4 (some (.array (.object "java/lang/Object"))) :: TT) ({ frames := 3, cells := 1, slots := 240, locals := 84 }) (va_Pc [.ref h, .int (nI (n + 1))] (gI D [(cI, .int), (cZ, .boolean), (cO, .object "java/lang/Object"), (cL, .long)] b e0 A)) (va_Qr (fun _ : gW => True) (fun A2 r t => gP D classes b A2 t.heap ∧ A2 (1, w) = some (h, .inr (4, [.int mo, .ref r, .int (nI n)])) ∧ (∃ (cap2 : Nat) (f2 : Nat → Option Nat), A2 (2, w) = some (r, .inl (cO, cap2, .inr (.inr (.inr (.inr f2))))) ∧ n < cap2 ∧ cap2 ≤ 240 ∧ ∀ i, i < n → f2 i = f i) ∧ gF [1, 2, 12] w A A2) (fun q => b ≤ q)) 1 240 (fun q => b ≤ q) := by
  refine Met.ofG (own := R_AL) (by decide +kernel) rfl (Nat.le_of_ble_eq_true rfl) ?_
  intro p e s m below meth c ls hx hb hr hlk hml hown hnm hts hI hl
  have hl : lv_has ls 4 [(0, .ref h), (1, .int (nI (n + 1)))] := hl
  have hS : gS b s.heap s.heap [] := va_S.rf
  obtain ⟨hP, hK⟩ := hI
  refine lv_aload_n hx hb d_AL_growI_0 rfl (lv_at hl 0 rfl) ?_
  refine g_get hx hb hts i_AL hown hK.1 hP fL rfl 1 (by decide) (hts _ k_37) (fun _ h9 => h9) rfl d_AL_growI_1 ?_
  refine g_alen (v := nI (n)) hx hb hK.1 hP 2 fA rfl rfl d_AL_growI_4 ?_
  refine lv_istore_n (lv' := [(2, .int (nI (n))), (0, .ref h), (1, .int (nI (n + 1)))]) hx hb d_AL_growI_5 rfl hl (by decide) rfl (fun ls hl => ?_)
  refine lv_iload_n hx hb d_AL_growI_6 rfl (lv_at hl 0 rfl) ?_
  refine lv_if_gt (tgt := 20) hx hb d_AL_growI_7 (by decide) (fun _ => ?_) (fun h9 => absurd (by rw [← nI_0]; exact nI_lt (show 0 < n by omega) (by omega)) h9)
  refine lv_iload_n hx hb d_AL_growI_20 rfl (lv_at hl 0 rfl) ?_
  refine lv_iload_n hx hb d_AL_growI_21 rfl (lv_at hl 2 rfl) ?_
  refine lv_iload_n hx hb d_AL_growI_22 rfl (lv_at hl 0 rfl) ?_
  refine lv_isub hx hb d_AL_growI_23 ?_
  rw [sub1]
  refine lv_iload_n hx hb d_AL_growI_24 rfl (lv_at hl 0 rfl) ?_
  refine lv_iconst (v := 1) hx hb d_AL_growI_25 (by decide) ?_
  refine lv_ishr hx hb d_AL_growI_26 ?_
  rw [shr1 (show n < 2 ^ 31 by omega)]
  refine g_ri (g_runS (As := [.int (nI (n)), .int (nI 1), .int (nI (n / 2))]) (rest := []) ⟨hx, hb, hml, hown, hts⟩ (c_As_newLength l (n := n) (by omega) (by omega)) st_As_newLength k_177 ⟨rfl, rfl, by decide, by decide⟩ (gT_pre _) rfl hl.1 rfl (Nat.le_of_ble_eq_true rfl) d_AL_growI_27 ⟨by decide, by decide⟩) (fun r2 hr2 => ?_)
  subst hr2
  refine lv_istore_n (lv' := [(3, .int (nI (n + n / 2))), (2, .int (nI (n))), (0, .ref h), (1, .int (nI (n + 1)))]) hx hb d_AL_growI_30 rfl hl (by decide) rfl (fun ls hl => ?_)
  refine lv_aload_n hx hb d_AL_growI_31 rfl (lv_at hl 2 rfl) ?_
  refine lv_aload_n hx hb d_AL_growI_32 rfl (lv_at hl 2 rfl) ?_
  refine g_get hx hb hts i_AL hown hK.1 hP fL rfl 1 (by decide) (hts _ k_37) (fun _ h9 => h9) rfl d_AL_growI_33 ?_
  refine lv_iload_n hx hb d_AL_growI_36 rfl (lv_at hl 0 rfl) ?_
  refine g_cr (B := fun A2 r H => gP D classes b A2 H ∧ A2 (12, w) = some (r, .inl (cO, (n + n / 2), .inr (.inr (.inr (.inr (va_cpy f (fun _ => none) 0 0 n)))))) ∧ gF [12] w A A2) (g_runS (As := [.ref q, .int (nI (n + n / 2))]) (rest := [.ref h]) ⟨hx, hb, hml, hown, hts⟩ (c_Ar_copyOf l (k2 := n + n / 2) fA (by omega) (by omega) (by omega) hkk hci hfi hel) st_Ar_copyOf k_187 ⟨rfl, rfl, by decide, by decide⟩ (gI.pre hK hS hP _) rfl hl.1 rfl (Nat.le_of_ble_eq_true rfl) d_AL_growI_37 ⟨by decide, by decide⟩) hS (fun A3 r H locs _ hp4 hS => ?_)
  obtain ⟨hP, fN, gN1⟩ := hp4
  refine W.widen (k := 1) (n := 240) (by decide) (by decide) ?_
  have f5 : A3 (1, w) = some (h, .inr (4, [.int mo, .ref q, .int (nI n)])) := (gN1.at (n := 1) (j := w) (by decide)).trans fL
  have f6 : A3 (2, w) = some (q, .inl (cO, n, .inr (.inr (.inr (.inr f))))) := (gN1.at (n := 2) (j := w) (by decide)).trans fA
  have gN2 : gF [1, 2, 12] w A A3 := gN1.mono (by decide)
  refine lv_dup_x1 hx hb d_AL_growI_40 rfl rfl ?_
  refine g_put (ty := (.array (.object "java/lang/Object"))) (v := .ref r) hx hb hts i_AL t_AL t_AL_ok n_AL hown hK.1 hP hS f5 rfl 1 (by decide) (hts _ k_37) (fun _ h9 => h9) rfl (by decide +kernel) rfl rfl (Nat.le_of_ble_eq_true rfl) d_AL_growI_41 (fun H locs hP hS => ?_)
  obtain ⟨A7, eA7⟩ : ∃ z, z = gU A3 (1, w) (h, .inr (4, [.int mo, .ref r, .int (nI n)])) := ⟨_, rfl⟩
  replace hP : gP D classes b A7 H := by rw [eA7]; exact hP
  have f8 : A7 (2, w) = some (q, .inl (cO, n, .inr (.inr (.inr (.inr f))))) := (by rw [eA7]; exact gU_n (gne (show (2 : Nat) ≠ 1 by decide)) : A7 (2, w) = A3 (2, w)).trans f6
  have f9 : A7 (12, w) = some (r, .inl (cO, (n + n / 2), .inr (.inr (.inr (.inr (va_cpy f (fun _ => none) 0 0 n)))))) := (by rw [eA7]; exact gU_n (gne (show (12 : Nat) ≠ 1 by decide)) : A7 (12, w) = A3 (12, w)).trans fN
  have f10 : A7 (1, w) = some (h, .inr (4, [.int mo, .ref r, .int (nI n)])) := by rw [eA7]; exact gU_s
  have gA7 : gF [1, 2, 12] w A A7 := by rw [eA7]; exact gF_U gN2 (by decide)
  have hP2 := hP.ren (2, w) (12, w)
  refine W.widen (k := 1) (n := 240) (by decide) (by decide) ?_
  exact W.aret hx hb hr (Or.inr ⟨_, rfl⟩) (Or.inr ⟨_, rfl⟩) (fun t ht _ => ⟨⟨gRen A7 (2, w) (12, w), r, rfl, trivial, ⟨(show gP D classes b (gRen A7 (2, w) (12, w)) t.heap by rw [ht]; exact hP2), (gRen_o (gne (show (1 : Nat) ≠ 2 by decide)) (gne (show (1 : Nat) ≠ 12 by decide))).trans f10, ⟨n + n / 2, _, gRen_n.trans f9, by omega, by omega, fun i hi => cpy_lt hi⟩, gA7.ren (by decide) (by decide)⟩⟩, hS.F ht⟩) hS.2.2 d_AL_growI_44
