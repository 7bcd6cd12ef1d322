theorem aF_15 (F : Nat → Nat → Int32) (n : Nat) (x : X3) (j : Nat) (hj : j < 3) : aF F n x 15 (3 * n + j) = argP x (nI j) := by
  show upd (upd (upd (F 15) (3 * n) x.1) (3 * n + 1) x.2.1) (3 * n + 2) x.2.2 (3 * n + j) = _
  rcases (by omega : j = 0 ∨ j = 1 ∨ j = 2) with rfl | rfl | rfl
  · rw [pk_un (by omega), pk_un (by omega), argP_0]; exact pk_us
  · rw [pk_un (by omega), argP_1]; exact pk_us
  · rw [argP_2]; exact pk_us
set_option maxHeartbeats 4000000 in
set_option maxRecDepth 100000 in
theorem c_MM_call (l : Launch) {D : va_G} {cI cZ cO cL : ClassId} {b e0 : Nat} {A : gW} {h : Nat} {σ : Bk} (hB : rMo cI cZ cL A h σ) (hw : wf σ) (x y xa xb xc : Int32) : Met l y_MM_call (Cond.code y_MM_call b_MM_call 11 (some .long) :: TT) ({ frames := 3, cells := 0, slots := 0, locals := 68 }) (va_Pc [.ref h, .int x, .int y, .int xa, .int xb, .int xc] (gI D [(cI, .int), (cZ, .boolean), (cO, .object "java/lang/Object"), (cL, .long)] b e0 A)) (va_Ql (fun (z : Int64) (A2 : gW) => z = (sCall σ x y xa xb xc).2 ∧ rMo cI cZ cL A2 h (sCall σ x y xa xb xc).1 ∧ gL A A2) (fun A2 t => gP D classes b A2 t.heap) (fun q => b ≤ q)) 0 0 (fun q => b ≤ q) := by
  refine Met.ofG (own := R_MM) (by decide +kernel) rfl (Nat.le_of_ble_eq_true rfl) ?_
  intro p e s m below meth c ls hx hb hr hlk hml hown hnm hts hI hl
  have hl : lv_has ls 11 [(0, .ref h), (1, .int x), (2, .int y), (3, .int xa), (4, .int xb), (5, .int xc)] := hl
  have hS : gS b s.heap s.heap [] := va_S.rf
  obtain ⟨hP, hK⟩ := hI
  obtain ⟨ad, F, G, hM, hR⟩ := id hB
  obtain ⟨hb0, hru, hrz, hst, hit, hiz, hgn⟩ := id hR
  obtain ⟨w1, w2, w3, w4, w5, w6, w7, w8⟩ := id hw
  refine lv_iload_n hx hb d_MM_call_0 rfl (lv_at hl 1 rfl) ?_
  refine lv_iload_n hx hb d_MM_call_1 rfl (lv_at hl 2 rfl) ?_
  refine g_ri (g_runS (As := [.int x, .int y]) (rest := []) ⟨hx, hb, hml, hown, hts⟩ (c_MM_bad l x y) st_MM_bad k_529 ⟨rfl, rfl, by decide, by decide⟩ (gT_pre _) rfl hl.1 rfl (Nat.le_of_ble_eq_true rfl) d_MM_call_2 ⟨by decide, by decide⟩) (fun r1 hr1 => ?_)
  subst hr1
  refine lv_if_ne (tgt := 18) hx hb d_MM_call_5 (by decide) (fun c2 => ?_) (fun c2 => ?_)
  · skip
    rw [bI_0] at c2
    refine lv_ldc2 (v := 60000000000) hx hb hown (hts _ k_544) d_MM_call_18 ?_
    have e9 : sCall σ x y xa xb xc = (σ, xNONE) := by unfold sCall; rw [if_neg (by simp_all)]
    refine W.widen (k := 0) (n := 0) (by decide) (by decide) ?_
    exact W.lret hx hb hr (fun t ht _ => ⟨⟨_, A, rfl, ⟨by rw [e9]; rfl, by rw [e9]; exact hB, gL.rf⟩, show gP D classes b A t.heap by rw [ht]; exact hP⟩, hS.F ht⟩) hS.2.2 d_MM_call_21
  · skip
    rw [bI_0] at c2
    have hin : inR x 0 3 = true ∧ inR y 0 7 = true := by simpa using c2
    obtain ⟨mk, hmk, rfl⟩ := inR_of (M := 3) (n := 3) (by decide) hin.1
    obtain ⟨mt, hmt, rfl⟩ := inR_of (M := 7) (n := 7) (by decide) hin.2
    have hc1 := nI_clamp (show mk < 2 ^ 31 by omega)
    have hc2 := nI_clamp (show mt < 2 ^ 31 by omega)
    refine lv_aload_n hx hb d_MM_call_8 rfl (lv_at hl 0 rfl) ?_
    refine g_get hx hb hts i_MM hown hK.1 hP (show A (20, 0) = some (h, .inr (5, [.ref (ad 0), .ref (ad 1), .int (nI ((kBu σ).length)), .ref (ad 3), .ref (ad 4), .ref (ad 5), .ref (ad 6), .ref (ad 7), .ref (ad 8), .ref (ad 9), .ref (ad 10), .int (nI ((kRs σ).length)), .ref (ad 12), .ref (ad 13), .ref (ad 14), .ref (ad 15), .ref (ad 16), .ref (ad 17), .ref (ad 18), .ref (ad 19), .ref (ad 20), .ref (ad 21), .int (nI ((kIs σ).length)), .int (nI (kMk σ) - 1)])) from hM.1) rfl 22 (by decide) (hts _ k_465) (fun _ h9 => h9) rfl d_MM_call_9 ?_
    refine lv_sipush (v := 160) hx hb d_MM_call_12 (by decide) ?_
    refine lv_icmp_ne (tgt := 22) hx hb d_MM_call_15 (by decide) (fun c3 => ?_) (fun c3 => ?_)
    · skip
      replace c3 : ¬ (kIs σ).length = 160 := fun q => c3 ((nI_eq (a := (kIs σ).length) (b := 160) (by omega) (by decide)).mpr q)
      obtain ⟨Rf, hRf0⟩ : ∃ z : List Ru, z = (calS (kSt σ) 4 (kRs σ) (kIs σ).length mk mt (xa, xb, xc) 0 (-1)).1 := ⟨_, rfl⟩
      obtain ⟨Pf, hPf0⟩ : ∃ z : List It, z = kIs σ ++ (calS (kSt σ) 4 (kRs σ) (kIs σ).length mk mt (xa, xb, xc) 0 (-1)).2.1 := ⟨_, rfl⟩
      obtain ⟨ans, hans0⟩ : ∃ z : Int64, z = (calS (kSt σ) 4 (kRs σ) (kIs σ).length mk mt (xa, xb, xc) 0 (-1)).2.2 := ⟨_, rfl⟩
      have e9 : (sCall σ (nI mk) (nI mt) xa xb xc) = ((Rf, Pf, kSt σ, kBu σ, kMk σ), ans) := by unfold sCall; rw [if_pos (by simp_all), hc1, hc2, if_neg (by omega), hRf0, hPf0, hans0]
      have hexit : ∀ (rs : List Ru) (P : List It) (i : Nat) (B : gW) (H : Heap) (lo : List Loc) (ls : Array Slot) (Fx : Nat → Nat → Int32), i + 1 = P.length → (kIs σ).length ≤ i → wfU rs P i → (∀ d, (kIs σ).length + d < P.length → iFr (P.getD ((kIs σ).length + d) i0) = kv (kIs σ).length d) → (∀ k, (kIs σ).length ≤ k → k < P.length → iAn (P.getD k i0) = ans) → plainS (kSt σ) rs (iRu (P.getD i i0)) (iMk (P.getD i i0)) (iX (P.getD i i0)) = ans → P = Pf → rs.length = Rf.length → mRep Fx G (rs, P, kSt σ, kBu σ, kMk σ) (kIs σ).length → mRep Fx G (Rf, P, kSt σ, kBu σ, kMk σ) (kIs σ).length → gP D classes b B H → gS b s.heap H lo → rMM cI cZ cL B h ad Fx G (kBu σ).length rs.length P.length (kMk σ) → gL A B → lv_has ls 11 [(7, .int (actN rs (iRu (P.getD i i0)))), (6, .int (nI i)), (0, .ref h)] → W p l e ({ frames := 3, cells := 0, slots := 0, locals := 68 }) s m ([.ref h, .int (nI mk), .int (nI mt), .int xa, .int xb, .int xc] : List Value).toArray below meth c H lo 0 0 (MQ below (va_Ql (fun (z : Int64) (A2 : gW) => z = (sCall σ (nI mk) (nI mt) xa xb xc).2 ∧ rMo cI cZ cL A2 h (sCall σ (nI mk) (nI mt) xa xb xc).1 ∧ gL A A2) (fun A2 t => gP D classes b A2 t.heap) (fun q => b ≤ q)) ([.ref h, .int (nI mk), .int (nI mt), .int xa, .int xb, .int xc] : List Value).toArray s 0 0 (fun q => b ≤ q)) (F0 m 254 ls []) := by
        intro rs P i B H lo ls Fx hi hn0 hU hch han hpl hPf1 hlen hRp hRf1 hP hS hMe gl1 hl
        have hU2 := hU.2.1
        have hti : mIn Fx i (P.getD i i0) := hRp.2.2.2.2.1 i (show i < P.length by omega)
        refine lv_aload_n hx hb d_MM_call_254 rfl (lv_at hl 2 rfl) ?_
        refine lv_iload hx hb d_MM_call_255 (lv_at hl 1 rfl) ?_
        refine lv_iload hx hb d_MM_call_257 (lv_at hl 0 rfl) ?_
        refine g_rl (g_runV (As := [.int (nI i), .int (actN rs (iRu (P.getD i i0)))]) (rest := []) ⟨hx, hb, hml, hown, hts⟩ (c_MM_plain l (mt := 0) hMe hRp.2.1 hU.2.2.1 hU.1 (i := i) (by omega) (a := fun k => iRu (P.getD k i0)) (ruLeU hU) (fun k hk => (hRp.2.2.2.2.1 k (show k < P.length by omega)).2.2.2.2.2.1) hU.2.2.2.2 (hU.2.2.2.1 i (by omega)).1.1 hti.1 hti.2.2.1 (hU.2.2.2.1 i (by omega)).2 hti.2.2.2.2.2.1 hRp.2.2.2.1) st_MM_plain k_564 ⟨rfl, rfl, by decide, by decide⟩ rfl (gI.preV hK hS hP (show B (20, 0) = some (h, .inr (5, [.ref (ad 0), .ref (ad 1), .int (nI ((kBu σ).length)), .ref (ad 3), .ref (ad 4), .ref (ad 5), .ref (ad 6), .ref (ad 7), .ref (ad 8), .ref (ad 9), .ref (ad 10), .int (nI rs.length), .ref (ad 12), .ref (ad 13), .ref (ad 14), .ref (ad 15), .ref (ad 16), .ref (ad 17), .ref (ad 18), .ref (ad 19), .ref (ad 20), .ref (ad 21), .int (nI P.length), .int (nI (kMk σ) - 1)])) from hMe.1) rfl _) rfl hl.1 rfl (Nat.le_of_ble_eq_true rfl) d_MM_call_259 ⟨by decide, by decide⟩) (fun r4 hr4 => ?_)
        subst hr4
        rw [hpl]
        refine lv_lstore (lv' := [(8, .long ans), (7, .int (actN rs (iRu (P.getD i i0)))), (6, .int (nI i)), (0, .ref h)]) hx hb d_MM_call_262 hl (by decide) rfl (fun ls hl => ?_)
        refine lv_iload hx hb d_MM_call_264 (lv_at hl 2 rfl) ?_
        refine lv_istore (lv' := [(10, .int (nI i)), (8, .long ans), (7, .int (actN rs (iRu (P.getD i i0)))), (6, .int (nI i)), (0, .ref h)]) hx hb d_MM_call_266 hl (by decide) rfl (fun ls hl => ?_)
        obtain ⟨d, hd⟩ : ∃ z : Nat, (kIs σ).length + z = P.length := ⟨P.length - (kIs σ).length, by omega⟩
        have hkv : nI i = kv (kIs σ).length d := by obtain ⟨d2, rfl⟩ : ∃ z, d = z + 1 := ⟨d - 1, by omega⟩; rw [kv_p]; congr 1; omega
        replace hl : lv_has ls 11 [(10, .int (kv (kIs σ).length d)), (8, .long ans), (7, .int (actN rs (iRu (P.getD i i0)))), (6, .int (nI i)), (0, .ref h)] := by rw [← hkv]; exact hl
        obtain ⟨Gd, hGd⟩ : ∃ z : Nat → Int64, z = G := ⟨_, rfl⟩
        have hMg : rMM cI cZ cL B h ad Fx Gd (kBu σ).length rs.length P.length (kMk σ) := by rw [hGd]; exact hMe
        have hG1 : ∀ k, k < (kIs σ).length → Gd k = G k := fun k _ => by rw [hGd]
        have hG2 : ∀ k, (kIs σ).length + d ≤ k → k < P.length → Gd k = ans := fun k h1 h2 => by omega
        have hdl : (kIs σ).length + d ≤ P.length := by omega
        clear hd hkv hGd hMe
        induction d generalizing Gd B H lo ls with
        | zero =>
          refine lv_iload hx hb d_MM_call_268 (lv_at hl 0 rfl) ?_
          refine lv_if_lt (tgt := 294) hx hb d_MM_call_270 (by decide) (fun _ => ?_) (fun h9 => absurd (show kv (kIs σ).length 0 < 0 from (by decide : (-1 : Int32) < 0)) h9)
          refine lv_lload hx hb d_MM_call_294 (lv_at hl 1 rfl) ?_
          have hMf : rMM cI cZ cL B h ad Fx Gd (kBu σ).length Rf.length Pf.length (kMk σ) := by rw [← hlen, ← hPf1]; exact hMg
          have hRf : mRep Fx Gd (Rf, Pf, kSt σ, kBu σ, kMk σ) Pf.length := by
            rw [← hPf1]
            refine ⟨hRf1.1, hRf1.2.1, hRf1.2.2.1, hRf1.2.2.2.1, hRf1.2.2.2.2.1, hRf1.2.2.2.2.2.1, fun k hk => ?_⟩
            show Gd k = iAn (P.getD k i0)
            by_cases h9 : k < (kIs σ).length
            · exact (hG1 k h9).trans (hRf1.2.2.2.2.2.2 k h9)
            · exact (hG2 k (by omega) hk).trans (han k (by omega) hk).symm
          refine W.widen (k := 0) (n := 0) (by decide) (by decide) ?_
          exact W.lret hx hb hr (fun t ht _ => ⟨⟨_, B, rfl, ⟨by rw [e9], by rw [e9]; exact ⟨ad, Fx, Gd, hMf, hRf⟩, gl1⟩, show gP D classes b B t.heap by rw [ht]; exact hP⟩, hS.F ht⟩) hS.2.2 d_MM_call_296
        | succ d ih =>
          rw [kv_p] at hl
          refine lv_iload hx hb d_MM_call_268 (lv_at hl 0 rfl) ?_
          refine lv_if_lt (tgt := 294) hx hb d_MM_call_270 (by decide) (fun h9 => absurd h9 (nI_pos (show (kIs σ).length + d < 2 ^ 31 by omega))) (fun _ => ?_)
          refine lv_aload_n hx hb d_MM_call_273 rfl (lv_at hl 4 rfl) ?_
          refine g_get hx hb hts i_MM hown hK.1 hP (show B (20, 0) = some (h, .inr (5, [.ref (ad 0), .ref (ad 1), .int (nI ((kBu σ).length)), .ref (ad 3), .ref (ad 4), .ref (ad 5), .ref (ad 6), .ref (ad 7), .ref (ad 8), .ref (ad 9), .ref (ad 10), .int (nI rs.length), .ref (ad 12), .ref (ad 13), .ref (ad 14), .ref (ad 15), .ref (ad 16), .ref (ad 17), .ref (ad 18), .ref (ad 19), .ref (ad 20), .ref (ad 21), .int (nI P.length), .int (nI (kMk σ) - 1)])) from hMg.1) rfl 19 (by decide) (hts _ k_462) (fun _ h9 => h9) rfl d_MM_call_274 ?_
          refine lv_iload hx hb d_MM_call_277 (lv_at hl 0 rfl) ?_
          refine lv_lload hx hb d_MM_call_279 (lv_at hl 1 rfl) ?_
          refine g_last (k := (kIs σ).length + d) hx hb hK.1 hP hS 3 (show B (40, 0) = some (ad 19, .inl (cL, 160, .inr (.inl Gd))) from hMg.2.2) rfl (vp_in_nI (show (kIs σ).length + d < 160 by omega) (by omega)) (nI_clamp (show (kIs σ).length + d < 2 ^ 31 by omega)) d_MM_call_281 (fun H locs hP hS => ?_)
          obtain ⟨A7, eA7⟩ : ∃ z, z = gU B (40, 0) (ad 19, .inl (cL, 160, .inr (.inl (vp_updL Gd ((kIs σ).length + d) (ans))))) := ⟨_, rfl⟩
          replace hP : gP D classes b A7 H := by rw [eA7]; exact hP
          have hM8 : rMM cI cZ cL A7 h ad Fx (vp_updL Gd ((kIs σ).length + d) (ans)) ((kBu σ).length) rs.length P.length (kMk σ) := by rw [eA7]; exact hMg.res _
          have glA7 : gL A A7 := by rw [eA7]; exact gl1.U (by decide)
          refine lv_aload_n hx hb d_MM_call_282 rfl (lv_at hl 4 rfl) ?_
          refine g_get hx hb hts i_MM hown hK.1 hP (show A7 (20, 0) = some (h, .inr (5, [.ref (ad 0), .ref (ad 1), .int (nI ((kBu σ).length)), .ref (ad 3), .ref (ad 4), .ref (ad 5), .ref (ad 6), .ref (ad 7), .ref (ad 8), .ref (ad 9), .ref (ad 10), .int (nI rs.length), .ref (ad 12), .ref (ad 13), .ref (ad 14), .ref (ad 15), .ref (ad 16), .ref (ad 17), .ref (ad 18), .ref (ad 19), .ref (ad 20), .ref (ad 21), .int (nI P.length), .int (nI (kMk σ) - 1)])) from hM8.1) rfl 17 (by decide) (hts _ k_460) (fun _ h9 => h9) rfl d_MM_call_283 ?_
          refine lv_iload hx hb d_MM_call_286 (lv_at hl 0 rfl) ?_
          refine g_iald (v := kv (kIs σ).length d) hx hb hK.1 hP 0 (show A7 (38, 0) = some (ad 17, .inl (cI, 160, .inl (Fx 17))) from hM8.2.1 17 rfl) rfl (vp_in_nI (show (kIs σ).length + d < 160 by omega) (by omega)) (by rw [(nI_clamp (show (kIs σ).length + d < 2 ^ 31 by omega))]; exact (hRp.2.2.2.2.1 ((kIs σ).length + d) (show (kIs σ).length + d < P.length by omega)).2.2.2.2.1.trans (hch d (by omega))) d_MM_call_288 ?_
          refine lv_istore (lv' := [(10, .int (kv (kIs σ).length d)), (8, .long ans), (7, .int (actN rs (iRu (P.getD i i0)))), (6, .int (nI i)), (0, .ref h)]) hx hb d_MM_call_289 hl (by decide) rfl (fun ls hl => ?_)
          refine lv_goto (tgt := 268) hx hb d_MM_call_291 (by decide) ?_
          exact ih _ _ _ hP hS glA7 _ (lv_sub hl [0, 1, 2, 3, 4] rfl) _ hM8 (fun k hk => (pk_uLn (by omega)).trans (hG1 k hk)) (fun k h1 h2 => by
            by_cases e : k = (kIs σ).length + d
            · rw [e]; exact pk_uLs
            · rw [pk_uLn e]; exact hG2 k (by omega) h2) (by omega)
      have hloop : ∀ (f : Nat) (rs : List Ru) (P M : List It) (i : Nat) (B : gW) (H : Heap) (lo : List Loc) (ls : Array Slot) (Fx : Nat → Nat → Int32), i + 1 = P.length → (kIs σ).length ≤ i → wfU rs P i → (∀ d, (kIs σ).length + d < P.length → iFr (P.getD ((kIs σ).length + d) i0) = kv (kIs σ).length d) → (∀ k, (kIs σ).length ≤ k → k < P.length → iAn (P.getD k i0) = ans) → iDp (P.getD i i0) + f = 3 → respG (kSt σ) (calS (kSt σ) f) rs (i + 1) i (iMk (P.getD i i0)) (iX (P.getD i i0)) (iDp (P.getD i i0)) (iRu (P.getD i i0)) = (Rf, M, ans) → P ++ M = Pf → mRep Fx G (rs, P, kSt σ, kBu σ, kMk σ) (kIs σ).length → gP D classes b B H → gS b s.heap H lo → rMM cI cZ cL B h ad Fx G (kBu σ).length rs.length P.length (kMk σ) → gL A B → lv_has ls 11 [(7, .int (actN rs (iRu (P.getD i i0)))), (6, .int (nI i)), (0, .ref h)] → W p l e ({ frames := 3, cells := 0, slots := 0, locals := 68 }) s m ([.ref h, .int (nI mk), .int (nI mt), .int xa, .int xb, .int xc] : List Value).toArray below meth c H lo 0 0 (MQ below (va_Ql (fun (z : Int64) (A2 : gW) => z = (sCall σ (nI mk) (nI mt) xa xb xc).2 ∧ rMo cI cZ cL A2 h (sCall σ (nI mk) (nI mt) xa xb xc).1 ∧ gL A A2) (fun A2 t => gP D classes b A2 t.heap) (fun q => b ≤ q)) ([.ref h, .int (nI mk), .int (nI mt), .int xa, .int xb, .int xc] : List Value).toArray s 0 0 (fun q => b ≤ q)) (F0 m 108 ls []) := by
        intro f
        induction f with
        | zero =>
          intro rs P M i B H lo ls Fx hi hn0 hU hch han hdp hresp hPfM hRp hP hS hMe gl1 hl
          have hU2 := hU.2.1
          have hU1 := hU.1
          have hti : mIn Fx i (P.getD i i0) := hRp.2.2.2.2.1 i (show i < P.length by omega)
          have hrle := (hU.2.2.2.1 i (by omega)).2
          cases hr1 : iRu (P.getD i i0) with
          | zero =>
            replace hl : lv_has ls 11 [(7, .int (-1)), (6, .int (nI i)), (0, .ref h)] := by have h9 := hl; rw [hr1, actN_0] at h9; exact h9
            refine lv_iload hx hb d_MM_call_108 (lv_at hl 0 rfl) ?_
            refine lv_if_lt (tgt := 254) hx hb d_MM_call_110 (by decide) (fun _ => ?_) (fun h9 => absurd (by decide) h9)
            rw [hr1, respG_0, Prod.mk.injEq, Prod.mk.injEq] at hresp
            obtain ⟨e1, e2, e3⟩ := hresp
            have hrf : mRep Fx G (Rf, P, kSt σ, kBu σ, kMk σ) (kIs σ).length := e1 ▸ hRp
            exact hexit rs P i B H lo _ Fx hi hn0 hU hch han (by rw [hr1]; exact e3) (by rw [← hPfM, ← e2, List.append_nil]) (by rw [e1]) hRp hrf hP hS hMe gl1 (by rw [hr1, actN_0]; exact lv_sub hl [0, 1, 2] rfl)
          | succ rr =>
            obtain ⟨bz1, bz2, bz3, bz4, bz5, bz6, bz7⟩ := hU.2.2.1 rr (by omega)
            by_cases hL : (uAc (rs.getD rr u0)).length = 0
            · skip
              replace hl : lv_has ls 11 [(7, .int (-1)), (6, .int (nI i)), (0, .ref h)] := by have h9 := hl; rw [hr1, actN_e hL] at h9; exact h9
              refine lv_iload hx hb d_MM_call_108 (lv_at hl 0 rfl) ?_
              refine lv_if_lt (tgt := 254) hx hb d_MM_call_110 (by decide) (fun _ => ?_) (fun h9 => absurd (by decide) h9)
              rw [hr1, respG_n (by rw [uAct_00 hL]; decide), Prod.mk.injEq, Prod.mk.injEq] at hresp
              obtain ⟨e1, e2, e3⟩ := hresp
              have hrf : mRep Fx G (Rf, P, kSt σ, kBu σ, kMk σ) (kIs σ).length := e1 ▸ (hRp.use (i := rr) (show rr < rs.length by omega))
              exact hexit rs P i B H lo _ Fx hi hn0 hU hch han (by rw [hr1]; exact e3) (by rw [← hPfM, ← e2, List.append_nil]) (by rw [← e1, List.length_set]) hRp hrf hP hS hMe gl1 (by rw [hr1, actN_e hL]; exact lv_sub hl [0, 1, 2] rfl)
            · skip
              obtain ⟨pz, hpz⟩ : ∃ z : Nat, z = 4 * rr + min (uUs (rs.getD rr u0)) ((uAc (rs.getD rr u0)).length - 1) := ⟨_, rfl⟩
              have hpa := (actN_p hL).trans (congrArg nI hpz.symm)
              replace hl : lv_has ls 11 [(7, .int (nI pz)), (6, .int (nI i)), (0, .ref h)] := by have h9 := hl; rw [hr1, hpa] at h9; exact h9
              have hk8 := (hRp.2.1 rr (show rr < rs.length by omega)).2.2.2.2.2 (min (uUs (rs.getD rr u0)) ((uAc (rs.getD rr u0)).length - 1)) (show min (uUs (rs.getD rr u0)) ((uAc (rs.getD rr u0)).length - 1) < (uAc (rs.getD rr u0)).length by omega)
              replace hk8 : Fx 8 pz = (uAct (rs.getD rr u0)).1 ∧ Fx 9 pz = (uAct (rs.getD rr u0)).2 := by rw [hpz]; exact hk8
              refine lv_iload hx hb d_MM_call_108 (lv_at hl 0 rfl) ?_
              refine lv_if_lt (tgt := 254) hx hb d_MM_call_110 (by decide) (fun h9 => absurd h9 (nI_pos (show pz < 2 ^ 31 by omega))) (fun _ => ?_)
              refine lv_aload_n hx hb d_MM_call_113 rfl (lv_at hl 2 rfl) ?_
              refine g_get hx hb hts i_MM hown hK.1 hP (show B (20, 0) = some (h, .inr (5, [.ref (ad 0), .ref (ad 1), .int (nI ((kBu σ).length)), .ref (ad 3), .ref (ad 4), .ref (ad 5), .ref (ad 6), .ref (ad 7), .ref (ad 8), .ref (ad 9), .ref (ad 10), .int (nI rs.length), .ref (ad 12), .ref (ad 13), .ref (ad 14), .ref (ad 15), .ref (ad 16), .ref (ad 17), .ref (ad 18), .ref (ad 19), .ref (ad 20), .ref (ad 21), .int (nI P.length), .int (nI (kMk σ) - 1)])) from hMe.1) rfl 8 (by decide) (hts _ k_451) (fun _ h9 => h9) rfl d_MM_call_114 ?_
              refine lv_iload hx hb d_MM_call_117 (lv_at hl 0 rfl) ?_
              refine g_iald (v := (uAct (rs.getD rr u0)).1) hx hb hK.1 hP 0 (show B (29, 0) = some (ad 8, .inl (cI, 96, .inl (Fx 8))) from hMe.2.1 8 rfl) rfl (vp_in_nI (show pz < 96 by omega) (by omega)) (by rw [(nI_clamp (show pz < 2 ^ 31 by omega))]; exact hk8.1) d_MM_call_119 ?_
              refine lv_iconst (v := 4) hx hb d_MM_call_120 (by decide) ?_
              refine lv_icmp_ne (tgt := 254) hx hb d_MM_call_121 (by decide) (fun c12 => ?_) (fun c12 => ?_)
              · skip
                rw [hr1, respG_n c12, Prod.mk.injEq, Prod.mk.injEq] at hresp
                obtain ⟨e1, e2, e3⟩ := hresp
                have hrf : mRep Fx G (Rf, P, kSt σ, kBu σ, kMk σ) (kIs σ).length := e1 ▸ (hRp.use (i := rr) (show rr < rs.length by omega))
                exact hexit rs P i B H lo _ Fx hi hn0 hU hch han (by rw [hr1]; exact e3) (by rw [← hPfM, ← e2, List.append_nil]) (by rw [← e1, List.length_set]) hRp hrf hP hS hMe gl1 (by rw [hr1, actN_p hL, ← hpz]; exact lv_sub hl [0, 1, 2] rfl)
              · skip
                have hc4 : (uAct (rs.getD rr u0)).1 = 4 := by simpa using c12
                refine lv_aload_n hx hb d_MM_call_124 rfl (lv_at hl 2 rfl) ?_
                refine g_get hx hb hts i_MM hown hK.1 hP (show B (20, 0) = some (h, .inr (5, [.ref (ad 0), .ref (ad 1), .int (nI ((kBu σ).length)), .ref (ad 3), .ref (ad 4), .ref (ad 5), .ref (ad 6), .ref (ad 7), .ref (ad 8), .ref (ad 9), .ref (ad 10), .int (nI rs.length), .ref (ad 12), .ref (ad 13), .ref (ad 14), .ref (ad 15), .ref (ad 16), .ref (ad 17), .ref (ad 18), .ref (ad 19), .ref (ad 20), .ref (ad 21), .int (nI P.length), .int (nI (kMk σ) - 1)])) from hMe.1) rfl 16 (by decide) (hts _ k_459) (fun _ h9 => h9) rfl d_MM_call_125 ?_
                refine lv_iload hx hb d_MM_call_128 (lv_at hl 1 rfl) ?_
                refine g_iald (v := nI (iDp (P.getD i i0))) hx hb hK.1 hP 0 (show B (37, 0) = some (ad 16, .inl (cI, 160, .inl (Fx 16))) from hMe.2.1 16 rfl) rfl (vp_in_nI (show i < 160 by omega) (by omega)) (by rw [(nI_clamp (show i < 2 ^ 31 by omega))]; exact hti.2.2.2.1) d_MM_call_130 ?_
                refine lv_iconst (v := 3) hx hb d_MM_call_131 (by decide) ?_
                refine lv_icmp_ge (tgt := 254) hx hb d_MM_call_132 (by decide) (fun _ => ?_) (fun h9 => absurd (nI_le (show 3 ≤ iDp (P.getD i i0) by omega) (by omega)) h9)
                obtain ⟨vv, hvv, hve⟩ := uAct_ok (hU.2.2.1 rr (by omega)) hc4
                rw [hr1, respG_4 hc4 hve hvv, show calS (kSt σ) 0 (rs.set rr (uUse (rs.getD rr u0))) (i + 1) (vv / 8) (vv % 8) (iX (P.getD i i0)) (iDp (P.getD i i0) + 1) (nI i) = (rs.set rr (uUse (rs.getD rr u0)), [], xDEEP) from rfl, Prod.mk.injEq, Prod.mk.injEq] at hresp
                obtain ⟨e1, e2, e3⟩ := hresp
                have hrf : mRep Fx G (Rf, P, kSt σ, kBu σ, kMk σ) (kIs σ).length := e1 ▸ (hRp.use (i := rr) (show rr < rs.length by omega))
                exact hexit rs P i B H lo _ Fx hi hn0 hU hch han (by rw [hr1, plainS_4 hc4]; exact e3) (by rw [← hPfM, ← e2, List.append_nil]) (by rw [← e1, List.length_set]) hRp hrf hP hS hMe gl1 (by rw [hr1, actN_p hL, ← hpz]; exact lv_sub hl [0, 1, 2] rfl)
        | succ f ih =>
          intro rs P M i B H lo ls Fx hi hn0 hU hch han hdp hresp hPfM hRp hP hS hMe gl1 hl
          have hU2 := hU.2.1
          have hU1 := hU.1
          have hti : mIn Fx i (P.getD i i0) := hRp.2.2.2.2.1 i (show i < P.length by omega)
          have hrle := (hU.2.2.2.1 i (by omega)).2
          cases hr1 : iRu (P.getD i i0) with
          | zero =>
            replace hl : lv_has ls 11 [(7, .int (-1)), (6, .int (nI i)), (0, .ref h)] := by have h9 := hl; rw [hr1, actN_0] at h9; exact h9
            refine lv_iload hx hb d_MM_call_108 (lv_at hl 0 rfl) ?_
            refine lv_if_lt (tgt := 254) hx hb d_MM_call_110 (by decide) (fun _ => ?_) (fun h9 => absurd (by decide) h9)
            rw [hr1, respG_0, Prod.mk.injEq, Prod.mk.injEq] at hresp
            obtain ⟨e1, e2, e3⟩ := hresp
            have hrf : mRep Fx G (Rf, P, kSt σ, kBu σ, kMk σ) (kIs σ).length := e1 ▸ hRp
            exact hexit rs P i B H lo _ Fx hi hn0 hU hch han (by rw [hr1]; exact e3) (by rw [← hPfM, ← e2, List.append_nil]) (by rw [e1]) hRp hrf hP hS hMe gl1 (by rw [hr1, actN_0]; exact lv_sub hl [0, 1, 2] rfl)
          | succ rr =>
            obtain ⟨bz1, bz2, bz3, bz4, bz5, bz6, bz7⟩ := hU.2.2.1 rr (by omega)
            by_cases hL : (uAc (rs.getD rr u0)).length = 0
            · skip
              replace hl : lv_has ls 11 [(7, .int (-1)), (6, .int (nI i)), (0, .ref h)] := by have h9 := hl; rw [hr1, actN_e hL] at h9; exact h9
              refine lv_iload hx hb d_MM_call_108 (lv_at hl 0 rfl) ?_
              refine lv_if_lt (tgt := 254) hx hb d_MM_call_110 (by decide) (fun _ => ?_) (fun h9 => absurd (by decide) h9)
              rw [hr1, respG_n (by rw [uAct_00 hL]; decide), Prod.mk.injEq, Prod.mk.injEq] at hresp
              obtain ⟨e1, e2, e3⟩ := hresp
              have hrf : mRep Fx G (Rf, P, kSt σ, kBu σ, kMk σ) (kIs σ).length := e1 ▸ (hRp.use (i := rr) (show rr < rs.length by omega))
              exact hexit rs P i B H lo _ Fx hi hn0 hU hch han (by rw [hr1]; exact e3) (by rw [← hPfM, ← e2, List.append_nil]) (by rw [← e1, List.length_set]) hRp hrf hP hS hMe gl1 (by rw [hr1, actN_e hL]; exact lv_sub hl [0, 1, 2] rfl)
            · skip
              obtain ⟨pz, hpz⟩ : ∃ z : Nat, z = 4 * rr + min (uUs (rs.getD rr u0)) ((uAc (rs.getD rr u0)).length - 1) := ⟨_, rfl⟩
              have hpa := (actN_p hL).trans (congrArg nI hpz.symm)
              replace hl : lv_has ls 11 [(7, .int (nI pz)), (6, .int (nI i)), (0, .ref h)] := by have h9 := hl; rw [hr1, hpa] at h9; exact h9
              have hk8 := (hRp.2.1 rr (show rr < rs.length by omega)).2.2.2.2.2 (min (uUs (rs.getD rr u0)) ((uAc (rs.getD rr u0)).length - 1)) (show min (uUs (rs.getD rr u0)) ((uAc (rs.getD rr u0)).length - 1) < (uAc (rs.getD rr u0)).length by omega)
              replace hk8 : Fx 8 pz = (uAct (rs.getD rr u0)).1 ∧ Fx 9 pz = (uAct (rs.getD rr u0)).2 := by rw [hpz]; exact hk8
              refine lv_iload hx hb d_MM_call_108 (lv_at hl 0 rfl) ?_
              refine lv_if_lt (tgt := 254) hx hb d_MM_call_110 (by decide) (fun h9 => absurd h9 (nI_pos (show pz < 2 ^ 31 by omega))) (fun _ => ?_)
              refine lv_aload_n hx hb d_MM_call_113 rfl (lv_at hl 2 rfl) ?_
              refine g_get hx hb hts i_MM hown hK.1 hP (show B (20, 0) = some (h, .inr (5, [.ref (ad 0), .ref (ad 1), .int (nI ((kBu σ).length)), .ref (ad 3), .ref (ad 4), .ref (ad 5), .ref (ad 6), .ref (ad 7), .ref (ad 8), .ref (ad 9), .ref (ad 10), .int (nI rs.length), .ref (ad 12), .ref (ad 13), .ref (ad 14), .ref (ad 15), .ref (ad 16), .ref (ad 17), .ref (ad 18), .ref (ad 19), .ref (ad 20), .ref (ad 21), .int (nI P.length), .int (nI (kMk σ) - 1)])) from hMe.1) rfl 8 (by decide) (hts _ k_451) (fun _ h9 => h9) rfl d_MM_call_114 ?_
              refine lv_iload hx hb d_MM_call_117 (lv_at hl 0 rfl) ?_
              refine g_iald (v := (uAct (rs.getD rr u0)).1) hx hb hK.1 hP 0 (show B (29, 0) = some (ad 8, .inl (cI, 96, .inl (Fx 8))) from hMe.2.1 8 rfl) rfl (vp_in_nI (show pz < 96 by omega) (by omega)) (by rw [(nI_clamp (show pz < 2 ^ 31 by omega))]; exact hk8.1) d_MM_call_119 ?_
              refine lv_iconst (v := 4) hx hb d_MM_call_120 (by decide) ?_
              refine lv_icmp_ne (tgt := 254) hx hb d_MM_call_121 (by decide) (fun c17 => ?_) (fun c17 => ?_)
              · skip
                rw [hr1, respG_n c17, Prod.mk.injEq, Prod.mk.injEq] at hresp
                obtain ⟨e1, e2, e3⟩ := hresp
                have hrf : mRep Fx G (Rf, P, kSt σ, kBu σ, kMk σ) (kIs σ).length := e1 ▸ (hRp.use (i := rr) (show rr < rs.length by omega))
                exact hexit rs P i B H lo _ Fx hi hn0 hU hch han (by rw [hr1]; exact e3) (by rw [← hPfM, ← e2, List.append_nil]) (by rw [← e1, List.length_set]) hRp hrf hP hS hMe gl1 (by rw [hr1, actN_p hL, ← hpz]; exact lv_sub hl [0, 1, 2] rfl)
              · skip
                have hc4 : (uAct (rs.getD rr u0)).1 = 4 := by simpa using c17
                refine lv_aload_n hx hb d_MM_call_124 rfl (lv_at hl 2 rfl) ?_
                refine g_get hx hb hts i_MM hown hK.1 hP (show B (20, 0) = some (h, .inr (5, [.ref (ad 0), .ref (ad 1), .int (nI ((kBu σ).length)), .ref (ad 3), .ref (ad 4), .ref (ad 5), .ref (ad 6), .ref (ad 7), .ref (ad 8), .ref (ad 9), .ref (ad 10), .int (nI rs.length), .ref (ad 12), .ref (ad 13), .ref (ad 14), .ref (ad 15), .ref (ad 16), .ref (ad 17), .ref (ad 18), .ref (ad 19), .ref (ad 20), .ref (ad 21), .int (nI P.length), .int (nI (kMk σ) - 1)])) from hMe.1) rfl 16 (by decide) (hts _ k_459) (fun _ h9 => h9) rfl d_MM_call_125 ?_
                refine lv_iload hx hb d_MM_call_128 (lv_at hl 1 rfl) ?_
                refine g_iald (v := nI (iDp (P.getD i i0))) hx hb hK.1 hP 0 (show B (37, 0) = some (ad 16, .inl (cI, 160, .inl (Fx 16))) from hMe.2.1 16 rfl) rfl (vp_in_nI (show i < 160 by omega) (by omega)) (by rw [(nI_clamp (show i < 2 ^ 31 by omega))]; exact hti.2.2.2.1) d_MM_call_130 ?_
                refine lv_iconst (v := 3) hx hb d_MM_call_131 (by decide) ?_
                refine lv_icmp_ge (tgt := 254) hx hb d_MM_call_132 (by decide) (fun h9 => absurd h9 (nI_ge (show iDp (P.getD i i0) < 3 by omega) (by decide))) (fun _ => ?_)
                obtain ⟨vv, hvv, hve⟩ := uAct_ok (hU.2.2.1 rr (by omega)) hc4
                refine lv_aload_n hx hb d_MM_call_135 rfl (lv_at hl 2 rfl) ?_
                refine g_get hx hb hts i_MM hown hK.1 hP (show B (20, 0) = some (h, .inr (5, [.ref (ad 0), .ref (ad 1), .int (nI ((kBu σ).length)), .ref (ad 3), .ref (ad 4), .ref (ad 5), .ref (ad 6), .ref (ad 7), .ref (ad 8), .ref (ad 9), .ref (ad 10), .int (nI rs.length), .ref (ad 12), .ref (ad 13), .ref (ad 14), .ref (ad 15), .ref (ad 16), .ref (ad 17), .ref (ad 18), .ref (ad 19), .ref (ad 20), .ref (ad 21), .int (nI P.length), .int (nI (kMk σ) - 1)])) from hMe.1) rfl 22 (by decide) (hts _ k_465) (fun _ h9 => h9) rfl d_MM_call_136 ?_
                refine lv_sipush (v := 160) hx hb d_MM_call_139 (by decide) ?_
                refine lv_icmp_ge (tgt := 254) hx hb d_MM_call_142 (by decide) (fun c19 => ?_) (fun c19 => ?_)
                · skip
                  replace c19 : 160 ≤ P.length := (nI_leI (a := 160) (b := P.length) (by decide) (by omega)).mp c19
                  rw [hr1, respG_4 hc4 hve hvv, calS_f (by omega), Prod.mk.injEq, Prod.mk.injEq] at hresp
                  obtain ⟨e1, e2, e3⟩ := hresp
                  have hrf : mRep Fx G (Rf, P, kSt σ, kBu σ, kMk σ) (kIs σ).length := e1 ▸ (hRp.use (i := rr) (show rr < rs.length by omega))
                  exact hexit rs P i B H lo _ Fx hi hn0 hU hch han (by rw [hr1, plainS_4 hc4]; exact e3) (by rw [← hPfM, ← e2, List.append_nil]) (by rw [← e1, List.length_set]) hRp hrf hP hS hMe gl1 (by rw [hr1, actN_p hL, ← hpz]; exact lv_sub hl [0, 1, 2] rfl)
                · skip
                  replace c19 : ¬ 160 ≤ P.length := fun q => c19 ((nI_leI (a := 160) (b := P.length) (by decide) (by omega)).mpr q)
                  rw [hr1, respG_4 hc4 hve hvv] at hresp
                  obtain ⟨rs2, hrs2⟩ : ∃ z : List Ru, z = rs.set rr (uUse (rs.getD rr u0)) := ⟨_, rfl⟩
                  have hl2 : rs2.length = rs.length := by rw [hrs2, List.length_set]
                  have hUu : wfU rs2 P P.length := by rw [hrs2]; exact hU.use hi hr1
                  have hU3 : wfU rs2 P (i + 1) := by rw [hi]; exact hUu
                  have hR2 : mRep Fx G (rs2, P, kSt σ, kBu σ, kMk σ) (kIs σ).length := by rw [hrs2]; exact hRp.use (i := rr) (show rr < rs.length by omega)
                  rw [← hrs2, calS_s (show i + 1 < 160 by omega), Prod.mk.injEq, Prod.mk.injEq] at hresp
                  obtain ⟨x2, hx2⟩ : ∃ z : X3, z = cut (vv % 8) (iX (P.getD i i0)) := ⟨_, rfl⟩
                  rw [← hx2] at hresp
                  obtain ⟨e1, e2, e3⟩ := hresp
                  rw [← hl2, ← hi] at hMe
                  obtain ⟨r2, hr2⟩ : ∃ z : Nat, z = ruFor rs2 (vv / 8) (vv % 8) x2 := ⟨_, rfl⟩
                  rw [← hr2] at e1 e2 e3
                  obtain ⟨t2, ht2⟩ : ∃ z : It, z = (vv / 8, vv % 8, x2, iDp (P.getD i i0) + 1, nI i, r2, ans, false, true) := ⟨_, rfl⟩
                  have hlst : (P ++ [t2]).getD (i + 1) i0 = t2 := by rw [hi]; exact getD_r
                  refine lv_aload_n hx hb d_MM_call_145 rfl (lv_at hl 2 rfl) ?_
                  refine lv_aload_n hx hb d_MM_call_146 rfl (lv_at hl 2 rfl) ?_
                  refine g_get hx hb hts i_MM hown hK.1 hP (show B (20, 0) = some (h, .inr (5, [.ref (ad 0), .ref (ad 1), .int (nI ((kBu σ).length)), .ref (ad 3), .ref (ad 4), .ref (ad 5), .ref (ad 6), .ref (ad 7), .ref (ad 8), .ref (ad 9), .ref (ad 10), .int (nI rs2.length), .ref (ad 12), .ref (ad 13), .ref (ad 14), .ref (ad 15), .ref (ad 16), .ref (ad 17), .ref (ad 18), .ref (ad 19), .ref (ad 20), .ref (ad 21), .int (nI (i + 1)), .int (nI (kMk σ) - 1)])) from hMe.1) rfl 9 (by decide) (hts _ k_452) (fun _ h9 => h9) rfl d_MM_call_147 ?_
                  refine lv_iload hx hb d_MM_call_150 (lv_at hl 0 rfl) ?_
                  refine g_iald (v := nI vv) hx hb hK.1 hP 0 (show B (30, 0) = some (ad 9, .inl (cI, 96, .inl (Fx 9))) from hMe.2.1 9 rfl) rfl (vp_in_nI (show pz < 96 by omega) (by omega)) (by rw [(nI_clamp (show pz < 2 ^ 31 by omega))]; exact hk8.2.trans hve) d_MM_call_152 ?_
                  refine lv_bipush (v := 8) hx hb d_MM_call_153 (by decide) ?_
                  refine lv_idiv hx hb d_MM_call_155 (by decide) ?_
                  rw [div8 (show vv < 2 ^ 31 by omega)]
                  refine lv_aload_n hx hb d_MM_call_156 rfl (lv_at hl 2 rfl) ?_
                  refine g_get hx hb hts i_MM hown hK.1 hP (show B (20, 0) = some (h, .inr (5, [.ref (ad 0), .ref (ad 1), .int (nI ((kBu σ).length)), .ref (ad 3), .ref (ad 4), .ref (ad 5), .ref (ad 6), .ref (ad 7), .ref (ad 8), .ref (ad 9), .ref (ad 10), .int (nI rs2.length), .ref (ad 12), .ref (ad 13), .ref (ad 14), .ref (ad 15), .ref (ad 16), .ref (ad 17), .ref (ad 18), .ref (ad 19), .ref (ad 20), .ref (ad 21), .int (nI (i + 1)), .int (nI (kMk σ) - 1)])) from hMe.1) rfl 9 (by decide) (hts _ k_452) (fun _ h9 => h9) rfl d_MM_call_157 ?_
                  refine lv_iload hx hb d_MM_call_160 (lv_at hl 0 rfl) ?_
                  refine g_iald (v := nI vv) hx hb hK.1 hP 0 (show B (30, 0) = some (ad 9, .inl (cI, 96, .inl (Fx 9))) from hMe.2.1 9 rfl) rfl (vp_in_nI (show pz < 96 by omega) (by omega)) (by rw [(nI_clamp (show pz < 2 ^ 31 by omega))]; exact hk8.2.trans hve) d_MM_call_162 ?_
                  refine lv_bipush (v := 8) hx hb d_MM_call_163 (by decide) ?_
                  refine lv_irem hx hb d_MM_call_165 (by decide) ?_
                  rw [rem8 (show vv < 2 ^ 31 by omega)]
                  refine lv_aload_n hx hb d_MM_call_166 rfl (lv_at hl 2 rfl) ?_
                  refine g_get hx hb hts i_MM hown hK.1 hP (show B (20, 0) = some (h, .inr (5, [.ref (ad 0), .ref (ad 1), .int (nI ((kBu σ).length)), .ref (ad 3), .ref (ad 4), .ref (ad 5), .ref (ad 6), .ref (ad 7), .ref (ad 8), .ref (ad 9), .ref (ad 10), .int (nI rs2.length), .ref (ad 12), .ref (ad 13), .ref (ad 14), .ref (ad 15), .ref (ad 16), .ref (ad 17), .ref (ad 18), .ref (ad 19), .ref (ad 20), .ref (ad 21), .int (nI (i + 1)), .int (nI (kMk σ) - 1)])) from hMe.1) rfl 16 (by decide) (hts _ k_459) (fun _ h9 => h9) rfl d_MM_call_167 ?_
                  refine lv_iload hx hb d_MM_call_170 (lv_at hl 1 rfl) ?_
                  refine g_iald (v := nI (iDp (P.getD i i0))) hx hb hK.1 hP 0 (show B (37, 0) = some (ad 16, .inl (cI, 160, .inl (Fx 16))) from hMe.2.1 16 rfl) rfl (vp_in_nI (show i < 160 by omega) (by omega)) (by rw [(nI_clamp (show i < 2 ^ 31 by omega))]; exact hti.2.2.2.1) d_MM_call_172 ?_
                  refine lv_iconst (v := 1) hx hb d_MM_call_173 (by decide) ?_
                  refine lv_iadd hx hb d_MM_call_174 ?_
                  rw [nI_1 _]
                  refine lv_iload hx hb d_MM_call_175 (lv_at hl 1 rfl) ?_
                  refine g_ci (B := fun A2 H => gP D classes b A2 H) (g_runV (As := [.int (nI (vv / 8)), .int (nI (vv % 8)), .int (nI (iDp (P.getD i i0) + 1)), .int (nI i)]) (rest := []) ⟨hx, hb, hml, hown, hts⟩ (c_MM_note l hMe (by omega) (vv / 8) (vv % 8) (iDp (P.getD i i0) + 1) (nI i)) st_MM_note k_545 ⟨rfl, rfl, by decide, by decide⟩ rfl (gI.preV hK hS hP (show B (20, 0) = some (h, .inr (5, [.ref (ad 0), .ref (ad 1), .int (nI ((kBu σ).length)), .ref (ad 3), .ref (ad 4), .ref (ad 5), .ref (ad 6), .ref (ad 7), .ref (ad 8), .ref (ad 9), .ref (ad 10), .int (nI rs2.length), .ref (ad 12), .ref (ad 13), .ref (ad 14), .ref (ad 15), .ref (ad 16), .ref (ad 17), .ref (ad 18), .ref (ad 19), .ref (ad 20), .ref (ad 21), .int (nI (i + 1)), .int (nI (kMk σ) - 1)])) from hMe.1) rfl _) rfl hl.1 rfl (Nat.le_of_ble_eq_true rfl) d_MM_call_177 ⟨by decide, by decide⟩) hS (fun r22 A20 H locs hp21 hP hS => ?_)
                  replace hP : gP D classes b A20 H := hP
                  refine W.widen (k := 0) (n := 0) (by decide) (by decide) ?_
                  obtain ⟨hz, hMn, gln⟩ := hp21
                  rw [hz]
                  have glm := gL.trans gl1 gln
                  refine lv_istore (lv' := [(8, .int (nI (i + 1))), (7, .int (nI pz)), (6, .int (nI i)), (0, .ref h)]) hx hb d_MM_call_180 hl (by decide) rfl (fun ls hl => ?_)
                  rcases (by omega : vv % 8 % 4 = 0 ∨ vv % 8 % 4 = 1 ∨ vv % 8 % 4 = 2 ∨ vv % 8 % 4 = 3) with e4 | e4 | e4 | e4
                  · skip
                    refine lv_iconst (v := 0) hx hb d_MM_call_182 (by decide) ?_
                    refine lv_istore (lv' := [(9, .int 0), (8, .int (nI (i + 1))), (7, .int (nI pz)), (6, .int (nI i)), (0, .ref h)]) hx hb d_MM_call_183 hl (by decide) rfl (fun ls hl => ?_)
                    refine lv_iload hx hb d_MM_call_185 (lv_at hl 0 rfl) ?_
                    refine lv_iconst (v := 3) hx hb d_MM_call_187 (by decide) ?_
                    refine lv_icmp_ge (tgt := 239) hx hb d_MM_call_188 (by decide) (fun h9 => absurd h9 (by decide)) (fun _ => ?_)
                    refine lv_aload_n hx hb d_MM_call_191 rfl (lv_at hl 4 rfl) ?_
                    refine g_get hx hb hts i_MM hown hK.1 hP (show A20 (20, 0) = some (h, .inr (5, [.ref (ad 0), .ref (ad 1), .int (nI ((kBu σ).length)), .ref (ad 3), .ref (ad 4), .ref (ad 5), .ref (ad 6), .ref (ad 7), .ref (ad 8), .ref (ad 9), .ref (ad 10), .int (nI rs2.length), .ref (ad 12), .ref (ad 13), .ref (ad 14), .ref (ad 15), .ref (ad 16), .ref (ad 17), .ref (ad 18), .ref (ad 19), .ref (ad 20), .ref (ad 21), .int (nI (i + 1 + 1)), .int (nI (kMk σ) - 1)])) from hMn.1) rfl 15 (by decide) (hts _ k_458) (fun _ h9 => h9) rfl d_MM_call_192 ?_
                    refine lv_iconst (v := 3) hx hb d_MM_call_195 (by decide) ?_
                    refine lv_iload hx hb d_MM_call_196 (lv_at hl 1 rfl) ?_
                    refine lv_imul hx hb d_MM_call_198 ?_
                    rw [mul3 _]
                    refine lv_iload hx hb d_MM_call_199 (lv_at hl 0 rfl) ?_
                    refine lv_iadd hx hb d_MM_call_201 ?_
                    rw [show nI (3 * (i + 1)) + 0 = nI (3 * (i + 1) + 0) from nI_add _ 0]
                    refine lv_iload hx hb d_MM_call_202 (lv_at hl 0 rfl) ?_
                    refine lv_aload_n hx hb d_MM_call_204 rfl (lv_at hl 4 rfl) ?_
                    refine g_get hx hb hts i_MM hown hK.1 hP (show A20 (20, 0) = some (h, .inr (5, [.ref (ad 0), .ref (ad 1), .int (nI ((kBu σ).length)), .ref (ad 3), .ref (ad 4), .ref (ad 5), .ref (ad 6), .ref (ad 7), .ref (ad 8), .ref (ad 9), .ref (ad 10), .int (nI rs2.length), .ref (ad 12), .ref (ad 13), .ref (ad 14), .ref (ad 15), .ref (ad 16), .ref (ad 17), .ref (ad 18), .ref (ad 19), .ref (ad 20), .ref (ad 21), .int (nI (i + 1 + 1)), .int (nI (kMk σ) - 1)])) from hMn.1) rfl 14 (by decide) (hts _ k_457) (fun _ h9 => h9) rfl d_MM_call_205 ?_
                    refine lv_iload hx hb d_MM_call_208 (lv_at hl 1 rfl) ?_
                    refine g_iald (v := nI (vv % 8)) hx hb hK.1 hP 0 (show A20 (35, 0) = some (ad 14, .inl (cI, 160, .inl (upd (Fx 14) (i + 1) (nI (vv % 8))))) from hMn.2.1 14 rfl) rfl (vp_in_nI (show i + 1 < 160 by omega) (by omega)) (by rw [(nI_clamp (show i + 1 < 2 ^ 31 by omega))]; exact pk_us) d_MM_call_210 ?_
                    refine lv_iconst (v := 4) hx hb d_MM_call_211 (by decide) ?_
                    refine lv_irem hx hb d_MM_call_212 (by decide) ?_
                    rw [rem4 (show vv % 8 < 2 ^ 31 by omega)]
                    rw [e4]
                    refine lv_icmp_ge (tgt := 231) hx hb d_MM_call_213 (by decide) (fun _ => ?_) (fun h9 => absurd (by decide) h9)
                    refine lv_iconst (v := 0) hx hb d_MM_call_231 (by decide) ?_
                    refine g_iast (k := 3 * (i + 1) + 0) hx hb hK.1 hP hS 0 (show A20 (36, 0) = some (ad 15, .inl (cI, 480, .inl (Fx 15))) from hMn.2.1 15 rfl) rfl (vp_in_nI (show 3 * (i + 1) + 0 < 480 by omega) (by omega)) (nI_clamp (show 3 * (i + 1) + 0 < 2 ^ 31 by omega)) d_MM_call_232 (fun H locs hP hS => ?_)
                    obtain ⟨A25, eA25⟩ : ∃ z, z = gU A20 (36, 0) (ad 15, .inl (cI, 480, .inl (upd (Fx 15) (3 * (i + 1) + 0) (0)))) := ⟨_, rfl⟩
                    replace hP : gP D classes b A25 H := by rw [eA25]; exact hP
                    have hM26 : rMM cI cZ cL A25 h ad (va_up (nF Fx (i + 1) (vv / 8) (vv % 8) (iDp (P.getD i i0) + 1) (nI i)) 15 (upd (Fx 15) (3 * (i + 1) + 0) (0))) G ((kBu σ).length) rs2.length (i + 1 + 1) (kMk σ) := by rw [eA25]; exact hMn.put 15 rfl _
                    have glA25 : gL A A25 := by rw [eA25]; exact glm.U (by decide)
                    refine lv_iinc (v := 1) (lv' := [(9, .int 1), (8, .int (nI (i + 1))), (7, .int (nI pz)), (6, .int (nI i)), (0, .ref h)]) hx hb d_MM_call_233 hl (k := 0) rfl (by decide) (by decide) rfl (fun ls hl => ?_)
                    refine lv_goto (tgt := 185) hx hb d_MM_call_236 (by decide) ?_
                    refine lv_iload hx hb d_MM_call_185 (lv_at hl 0 rfl) ?_
                    refine lv_iconst (v := 3) hx hb d_MM_call_187 (by decide) ?_
                    refine lv_icmp_ge (tgt := 239) hx hb d_MM_call_188 (by decide) (fun h9 => absurd h9 (by decide)) (fun _ => ?_)
                    refine lv_aload_n hx hb d_MM_call_191 rfl (lv_at hl 4 rfl) ?_
                    refine g_get hx hb hts i_MM hown hK.1 hP (show A25 (20, 0) = some (h, .inr (5, [.ref (ad 0), .ref (ad 1), .int (nI ((kBu σ).length)), .ref (ad 3), .ref (ad 4), .ref (ad 5), .ref (ad 6), .ref (ad 7), .ref (ad 8), .ref (ad 9), .ref (ad 10), .int (nI rs2.length), .ref (ad 12), .ref (ad 13), .ref (ad 14), .ref (ad 15), .ref (ad 16), .ref (ad 17), .ref (ad 18), .ref (ad 19), .ref (ad 20), .ref (ad 21), .int (nI (i + 1 + 1)), .int (nI (kMk σ) - 1)])) from hM26.1) rfl 15 (by decide) (hts _ k_458) (fun _ h9 => h9) rfl d_MM_call_192 ?_
                    refine lv_iconst (v := 3) hx hb d_MM_call_195 (by decide) ?_
                    refine lv_iload hx hb d_MM_call_196 (lv_at hl 1 rfl) ?_
                    refine lv_imul hx hb d_MM_call_198 ?_
                    rw [mul3 _]
                    refine lv_iload hx hb d_MM_call_199 (lv_at hl 0 rfl) ?_
                    refine lv_iadd hx hb d_MM_call_201 ?_
                    rw [nI_1 _]
                    refine lv_iload hx hb d_MM_call_202 (lv_at hl 0 rfl) ?_
                    refine lv_aload_n hx hb d_MM_call_204 rfl (lv_at hl 4 rfl) ?_
                    refine g_get hx hb hts i_MM hown hK.1 hP (show A25 (20, 0) = some (h, .inr (5, [.ref (ad 0), .ref (ad 1), .int (nI ((kBu σ).length)), .ref (ad 3), .ref (ad 4), .ref (ad 5), .ref (ad 6), .ref (ad 7), .ref (ad 8), .ref (ad 9), .ref (ad 10), .int (nI rs2.length), .ref (ad 12), .ref (ad 13), .ref (ad 14), .ref (ad 15), .ref (ad 16), .ref (ad 17), .ref (ad 18), .ref (ad 19), .ref (ad 20), .ref (ad 21), .int (nI (i + 1 + 1)), .int (nI (kMk σ) - 1)])) from hM26.1) rfl 14 (by decide) (hts _ k_457) (fun _ h9 => h9) rfl d_MM_call_205 ?_
                    refine lv_iload hx hb d_MM_call_208 (lv_at hl 1 rfl) ?_
                    refine g_iald (v := nI (vv % 8)) hx hb hK.1 hP 0 (show A25 (35, 0) = some (ad 14, .inl (cI, 160, .inl (upd (Fx 14) (i + 1) (nI (vv % 8))))) from hM26.2.1 14 rfl) rfl (vp_in_nI (show i + 1 < 160 by omega) (by omega)) (by rw [(nI_clamp (show i + 1 < 2 ^ 31 by omega))]; exact pk_us) d_MM_call_210 ?_
                    refine lv_iconst (v := 4) hx hb d_MM_call_211 (by decide) ?_
                    refine lv_irem hx hb d_MM_call_212 (by decide) ?_
                    rw [rem4 (show vv % 8 < 2 ^ 31 by omega)]
                    rw [e4]
                    refine lv_icmp_ge (tgt := 231) hx hb d_MM_call_213 (by decide) (fun _ => ?_) (fun h9 => absurd (by decide) h9)
                    refine lv_iconst (v := 0) hx hb d_MM_call_231 (by decide) ?_
                    refine g_iast (k := 3 * (i + 1) + 1) hx hb hK.1 hP hS 0 (show A25 (36, 0) = some (ad 15, .inl (cI, 480, .inl (upd (Fx 15) (3 * (i + 1) + 0) (0)))) from hM26.2.1 15 rfl) rfl (vp_in_nI (show 3 * (i + 1) + 1 < 480 by omega) (by omega)) (nI_clamp (show 3 * (i + 1) + 1 < 2 ^ 31 by omega)) d_MM_call_232 (fun H locs hP hS => ?_)
                    obtain ⟨A29, eA29⟩ : ∃ z, z = gU A25 (36, 0) (ad 15, .inl (cI, 480, .inl (upd (upd (Fx 15) (3 * (i + 1) + 0) (0)) (3 * (i + 1) + 1) (0)))) := ⟨_, rfl⟩
                    replace hP : gP D classes b A29 H := by rw [eA29]; exact hP
                    have hM30 : rMM cI cZ cL A29 h ad (va_up (va_up (nF Fx (i + 1) (vv / 8) (vv % 8) (iDp (P.getD i i0) + 1) (nI i)) 15 (upd (Fx 15) (3 * (i + 1) + 0) (0))) 15 (upd (upd (Fx 15) (3 * (i + 1) + 0) (0)) (3 * (i + 1) + 1) (0))) G ((kBu σ).length) rs2.length (i + 1 + 1) (kMk σ) := by rw [eA29]; exact hM26.put 15 rfl _
                    have glA29 : gL A A29 := by rw [eA29]; exact glA25.U (by decide)
                    refine lv_iinc (v := 2) (lv' := [(9, .int 2), (8, .int (nI (i + 1))), (7, .int (nI pz)), (6, .int (nI i)), (0, .ref h)]) hx hb d_MM_call_233 hl (k := 0) rfl (by decide) (by decide) rfl (fun ls hl => ?_)
                    refine lv_goto (tgt := 185) hx hb d_MM_call_236 (by decide) ?_
                    refine lv_iload hx hb d_MM_call_185 (lv_at hl 0 rfl) ?_
                    refine lv_iconst (v := 3) hx hb d_MM_call_187 (by decide) ?_
                    refine lv_icmp_ge (tgt := 239) hx hb d_MM_call_188 (by decide) (fun h9 => absurd h9 (by decide)) (fun _ => ?_)
                    refine lv_aload_n hx hb d_MM_call_191 rfl (lv_at hl 4 rfl) ?_
                    refine g_get hx hb hts i_MM hown hK.1 hP (show A29 (20, 0) = some (h, .inr (5, [.ref (ad 0), .ref (ad 1), .int (nI ((kBu σ).length)), .ref (ad 3), .ref (ad 4), .ref (ad 5), .ref (ad 6), .ref (ad 7), .ref (ad 8), .ref (ad 9), .ref (ad 10), .int (nI rs2.length), .ref (ad 12), .ref (ad 13), .ref (ad 14), .ref (ad 15), .ref (ad 16), .ref (ad 17), .ref (ad 18), .ref (ad 19), .ref (ad 20), .ref (ad 21), .int (nI (i + 1 + 1)), .int (nI (kMk σ) - 1)])) from hM30.1) rfl 15 (by decide) (hts _ k_458) (fun _ h9 => h9) rfl d_MM_call_192 ?_
                    refine lv_iconst (v := 3) hx hb d_MM_call_195 (by decide) ?_
                    refine lv_iload hx hb d_MM_call_196 (lv_at hl 1 rfl) ?_
                    refine lv_imul hx hb d_MM_call_198 ?_
                    rw [mul3 _]
                    refine lv_iload hx hb d_MM_call_199 (lv_at hl 0 rfl) ?_
                    refine lv_iadd hx hb d_MM_call_201 ?_
                    rw [add2' _]
                    refine lv_iload hx hb d_MM_call_202 (lv_at hl 0 rfl) ?_
                    refine lv_aload_n hx hb d_MM_call_204 rfl (lv_at hl 4 rfl) ?_
                    refine g_get hx hb hts i_MM hown hK.1 hP (show A29 (20, 0) = some (h, .inr (5, [.ref (ad 0), .ref (ad 1), .int (nI ((kBu σ).length)), .ref (ad 3), .ref (ad 4), .ref (ad 5), .ref (ad 6), .ref (ad 7), .ref (ad 8), .ref (ad 9), .ref (ad 10), .int (nI rs2.length), .ref (ad 12), .ref (ad 13), .ref (ad 14), .ref (ad 15), .ref (ad 16), .ref (ad 17), .ref (ad 18), .ref (ad 19), .ref (ad 20), .ref (ad 21), .int (nI (i + 1 + 1)), .int (nI (kMk σ) - 1)])) from hM30.1) rfl 14 (by decide) (hts _ k_457) (fun _ h9 => h9) rfl d_MM_call_205 ?_
                    refine lv_iload hx hb d_MM_call_208 (lv_at hl 1 rfl) ?_
                    refine g_iald (v := nI (vv % 8)) hx hb hK.1 hP 0 (show A29 (35, 0) = some (ad 14, .inl (cI, 160, .inl (upd (Fx 14) (i + 1) (nI (vv % 8))))) from hM30.2.1 14 rfl) rfl (vp_in_nI (show i + 1 < 160 by omega) (by omega)) (by rw [(nI_clamp (show i + 1 < 2 ^ 31 by omega))]; exact pk_us) d_MM_call_210 ?_
                    refine lv_iconst (v := 4) hx hb d_MM_call_211 (by decide) ?_
                    refine lv_irem hx hb d_MM_call_212 (by decide) ?_
                    rw [rem4 (show vv % 8 < 2 ^ 31 by omega)]
                    rw [e4]
                    refine lv_icmp_ge (tgt := 231) hx hb d_MM_call_213 (by decide) (fun _ => ?_) (fun h9 => absurd (by decide) h9)
                    refine lv_iconst (v := 0) hx hb d_MM_call_231 (by decide) ?_
                    refine g_iast (k := 3 * (i + 1) + 2) hx hb hK.1 hP hS 0 (show A29 (36, 0) = some (ad 15, .inl (cI, 480, .inl (upd (upd (Fx 15) (3 * (i + 1) + 0) (0)) (3 * (i + 1) + 1) (0)))) from hM30.2.1 15 rfl) rfl (vp_in_nI (show 3 * (i + 1) + 2 < 480 by omega) (by omega)) (nI_clamp (show 3 * (i + 1) + 2 < 2 ^ 31 by omega)) d_MM_call_232 (fun H locs hP hS => ?_)
                    obtain ⟨A33, eA33⟩ : ∃ z, z = gU A29 (36, 0) (ad 15, .inl (cI, 480, .inl (upd (upd (upd (Fx 15) (3 * (i + 1) + 0) (0)) (3 * (i + 1) + 1) (0)) (3 * (i + 1) + 2) (0)))) := ⟨_, rfl⟩
                    replace hP : gP D classes b A33 H := by rw [eA33]; exact hP
                    have hM34 : rMM cI cZ cL A33 h ad (va_up (va_up (va_up (nF Fx (i + 1) (vv / 8) (vv % 8) (iDp (P.getD i i0) + 1) (nI i)) 15 (upd (Fx 15) (3 * (i + 1) + 0) (0))) 15 (upd (upd (Fx 15) (3 * (i + 1) + 0) (0)) (3 * (i + 1) + 1) (0))) 15 (upd (upd (upd (Fx 15) (3 * (i + 1) + 0) (0)) (3 * (i + 1) + 1) (0)) (3 * (i + 1) + 2) (0))) G ((kBu σ).length) rs2.length (i + 1 + 1) (kMk σ) := by rw [eA33]; exact hM30.put 15 rfl _
                    have glA33 : gL A A33 := by rw [eA33]; exact glA29.U (by decide)
                    refine lv_iinc (v := 3) (lv' := [(9, .int 3), (8, .int (nI (i + 1))), (7, .int (nI pz)), (6, .int (nI i)), (0, .ref h)]) hx hb d_MM_call_233 hl (k := 0) rfl (by decide) (by decide) rfl (fun ls hl => ?_)
                    refine lv_goto (tgt := 185) hx hb d_MM_call_236 (by decide) ?_
                    refine lv_iload hx hb d_MM_call_185 (lv_at hl 0 rfl) ?_
                    refine lv_iconst (v := 3) hx hb d_MM_call_187 (by decide) ?_
                    refine lv_icmp_ge (tgt := 239) hx hb d_MM_call_188 (by decide) (fun _ => ?_) (fun h9 => absurd (by decide) h9)
                    refine lv_iload hx hb d_MM_call_239 (lv_at hl 1 rfl) ?_
                    refine lv_istore (lv' := [(6, .int (nI (i + 1))), (9, .int 3), (8, .int (nI (i + 1))), (7, .int (nI pz)), (0, .ref h)]) hx hb d_MM_call_241 hl (by decide) rfl (fun ls hl => ?_)
                    have hx3 := hx2.trans (cut_0 _ e4)
                    have hMa : rMM cI cZ cL A33 h ad (aF (nF Fx (i + 1) (vv / 8) (vv % 8) (iDp (P.getD i i0) + 1) (nI i)) (i + 1) x2) G ((kBu σ).length) rs2.length (i + 1 + 1) (kMk σ) := by rw [hx3]; exact hM34
                    refine lv_aload_n hx hb d_MM_call_243 rfl (lv_at hl 4 rfl) ?_
                    refine lv_iload hx hb d_MM_call_244 (lv_at hl 0 rfl) ?_
                    refine g_ci (B := fun A2 H => gP D classes b A2 H) (g_runV (As := [.int (nI (i + 1))]) (rest := []) ⟨hx, hb, hml, hown, hts⟩ (c_MM_action l hMa (rs := rs2) hR2.2.1 hU3.2.2.1 hU3.1 (i := i + 1) (by omega) (a := fun k => iRu (P.getD k i0)) (ruLeU hU3) (fun k hk => (pk_un (Nat.ne_of_lt hk)).trans (hR2.2.2.2.2.1 k (show k < (P).length by omega)).2.2.2.2.2.1) hU3.2.2.2.2 (mk := vv / 8) (mt := vv % 8) (x := x2) (by omega) pk_us (fun j hj => aF_15 _ _ _ j hj) (by omega) pk_us pk_us) st_MM_action k_549 ⟨rfl, rfl, by decide, by decide⟩ rfl (gI.preV hK hS hP (show A33 (20, 0) = some (h, .inr (5, [.ref (ad 0), .ref (ad 1), .int (nI ((kBu σ).length)), .ref (ad 3), .ref (ad 4), .ref (ad 5), .ref (ad 6), .ref (ad 7), .ref (ad 8), .ref (ad 9), .ref (ad 10), .int (nI rs2.length), .ref (ad 12), .ref (ad 13), .ref (ad 14), .ref (ad 15), .ref (ad 16), .ref (ad 17), .ref (ad 18), .ref (ad 19), .ref (ad 20), .ref (ad 21), .int (nI (i + 1 + 1)), .int (nI (kMk σ) - 1)])) from hM34.1) rfl _) rfl hl.1 rfl (Nat.le_of_ble_eq_true rfl) d_MM_call_246 ⟨by decide, by decide⟩) hS (fun r38 A36 H locs hp37 hP hS => ?_)
                    replace hP : gP D classes b A36 H := hP
                    refine W.widen (k := 0) (n := 0) (by decide) (by decide) ?_
                    obtain ⟨hz2, hMc, glc⟩ := hp37
                    rw [hz2, ← hr2]
                    have gld := gL.trans glA33 glc
                    refine lv_istore (lv' := [(7, .int (actN rs2 r2)), (6, .int (nI (i + 1))), (9, .int 3), (8, .int (nI (i + 1))), (0, .ref h)]) hx hb d_MM_call_249 hl (by decide) rfl (fun ls hl => ?_)
                    refine lv_goto (tgt := 108) hx hb d_MM_call_251 (by decide) ?_
                    have hMd : rMM cI cZ cL A36 h ad (sF Fx (i + 1) (vv / 8) (vv % 8) (iDp (P.getD i i0) + 1) (nI i) x2 r2) G (kBu σ).length rs2.length (P ++ [t2]).length (kMk σ) := by rw [lenS, ← hi, hr2]; exact hMc
                    have hRd : mRep (sF Fx (i + 1) (vv / 8) (vv % 8) (iDp (P.getD i i0) + 1) (nI i) x2 r2) G (rs2, (P ++ [t2]), kSt σ, kBu σ, kMk σ) (kIs σ).length := by rw [ht2]; exact hR2.step (ans := ans) hi.symm (by omega) (by omega)
                    have hUd : wfU rs2 (P ++ [t2]) (i + 1) := by
                      rw [hi]
                      refine wfU.snoc hUu (by omega) ?_ ?_
                      · rw [ht2]; exact ⟨by show vv / 8 < 4; omega, by show vv % 8 < 8; omega⟩
                      · rw [ht2]; show r2 ≤ _; rw [hr2]; exact ruFor_le _ _ _ _
                    exact ih rs2 (P ++ [t2]) _ (i + 1) _ _ _ _ _ (by rw [lenS]; omega) (by omega) hUd (fun d hd => by
                      rw [lenS] at hd
                      by_cases e : (kIs σ).length + d = P.length
                      · rw [e, getD_r, ht2]
                        show nI i = kv (kIs σ).length d
                        obtain ⟨d2, rfl⟩ : ∃ z, d = z + 1 := ⟨d - 1, by omega⟩
                        rw [kv_p]; congr 1; omega
                      · rw [getD_l (by omega)]; exact hch d (by omega)) (fun k h1 h2 => by
                      rw [lenS] at h2
                      by_cases e : k = P.length
                      · rw [e, getD_r, ht2]
                      · rw [getD_l (by omega)]; exact han k h1 (by omega)) (by rw [hlst, ht2]; show iDp (P.getD i i0) + 1 + f = 3; omega) (by rw [hlst, ht2]; exact Prod.ext e1 (Prod.ext rfl e3)) (by rw [← hPfM, ← e2, e3, ht2]; simp) hRd hP hS hMd gld (by rw [hlst, ht2]; exact lv_sub hl [0, 1, 4] rfl)
                  · skip
                    refine lv_iconst (v := 0) hx hb d_MM_call_182 (by decide) ?_
                    refine lv_istore (lv' := [(9, .int 0), (8, .int (nI (i + 1))), (7, .int (nI pz)), (6, .int (nI i)), (0, .ref h)]) hx hb d_MM_call_183 hl (by decide) rfl (fun ls hl => ?_)
                    refine lv_iload hx hb d_MM_call_185 (lv_at hl 0 rfl) ?_
                    refine lv_iconst (v := 3) hx hb d_MM_call_187 (by decide) ?_
                    refine lv_icmp_ge (tgt := 239) hx hb d_MM_call_188 (by decide) (fun h9 => absurd h9 (by decide)) (fun _ => ?_)
                    refine lv_aload_n hx hb d_MM_call_191 rfl (lv_at hl 4 rfl) ?_
                    refine g_get hx hb hts i_MM hown hK.1 hP (show A20 (20, 0) = some (h, .inr (5, [.ref (ad 0), .ref (ad 1), .int (nI ((kBu σ).length)), .ref (ad 3), .ref (ad 4), .ref (ad 5), .ref (ad 6), .ref (ad 7), .ref (ad 8), .ref (ad 9), .ref (ad 10), .int (nI rs2.length), .ref (ad 12), .ref (ad 13), .ref (ad 14), .ref (ad 15), .ref (ad 16), .ref (ad 17), .ref (ad 18), .ref (ad 19), .ref (ad 20), .ref (ad 21), .int (nI (i + 1 + 1)), .int (nI (kMk σ) - 1)])) from hMn.1) rfl 15 (by decide) (hts _ k_458) (fun _ h9 => h9) rfl d_MM_call_192 ?_
                    refine lv_iconst (v := 3) hx hb d_MM_call_195 (by decide) ?_
                    refine lv_iload hx hb d_MM_call_196 (lv_at hl 1 rfl) ?_
                    refine lv_imul hx hb d_MM_call_198 ?_
                    rw [mul3 _]
                    refine lv_iload hx hb d_MM_call_199 (lv_at hl 0 rfl) ?_
                    refine lv_iadd hx hb d_MM_call_201 ?_
                    rw [show nI (3 * (i + 1)) + 0 = nI (3 * (i + 1) + 0) from nI_add _ 0]
                    refine lv_iload hx hb d_MM_call_202 (lv_at hl 0 rfl) ?_
                    refine lv_aload_n hx hb d_MM_call_204 rfl (lv_at hl 4 rfl) ?_
                    refine g_get hx hb hts i_MM hown hK.1 hP (show A20 (20, 0) = some (h, .inr (5, [.ref (ad 0), .ref (ad 1), .int (nI ((kBu σ).length)), .ref (ad 3), .ref (ad 4), .ref (ad 5), .ref (ad 6), .ref (ad 7), .ref (ad 8), .ref (ad 9), .ref (ad 10), .int (nI rs2.length), .ref (ad 12), .ref (ad 13), .ref (ad 14), .ref (ad 15), .ref (ad 16), .ref (ad 17), .ref (ad 18), .ref (ad 19), .ref (ad 20), .ref (ad 21), .int (nI (i + 1 + 1)), .int (nI (kMk σ) - 1)])) from hMn.1) rfl 14 (by decide) (hts _ k_457) (fun _ h9 => h9) rfl d_MM_call_205 ?_
                    refine lv_iload hx hb d_MM_call_208 (lv_at hl 1 rfl) ?_
                    refine g_iald (v := nI (vv % 8)) hx hb hK.1 hP 0 (show A20 (35, 0) = some (ad 14, .inl (cI, 160, .inl (upd (Fx 14) (i + 1) (nI (vv % 8))))) from hMn.2.1 14 rfl) rfl (vp_in_nI (show i + 1 < 160 by omega) (by omega)) (by rw [(nI_clamp (show i + 1 < 2 ^ 31 by omega))]; exact pk_us) d_MM_call_210 ?_
                    refine lv_iconst (v := 4) hx hb d_MM_call_211 (by decide) ?_
                    refine lv_irem hx hb d_MM_call_212 (by decide) ?_
                    rw [rem4 (show vv % 8 < 2 ^ 31 by omega)]
                    rw [e4]
                    refine lv_icmp_ge (tgt := 231) hx hb d_MM_call_213 (by decide) (fun h9 => absurd h9 (by decide)) (fun _ => ?_)
                    refine lv_aload_n hx hb d_MM_call_216 rfl (lv_at hl 4 rfl) ?_
                    refine g_get hx hb hts i_MM hown hK.1 hP (show A20 (20, 0) = some (h, .inr (5, [.ref (ad 0), .ref (ad 1), .int (nI ((kBu σ).length)), .ref (ad 3), .ref (ad 4), .ref (ad 5), .ref (ad 6), .ref (ad 7), .ref (ad 8), .ref (ad 9), .ref (ad 10), .int (nI rs2.length), .ref (ad 12), .ref (ad 13), .ref (ad 14), .ref (ad 15), .ref (ad 16), .ref (ad 17), .ref (ad 18), .ref (ad 19), .ref (ad 20), .ref (ad 21), .int (nI (i + 1 + 1)), .int (nI (kMk σ) - 1)])) from hMn.1) rfl 15 (by decide) (hts _ k_458) (fun _ h9 => h9) rfl d_MM_call_217 ?_
                    refine lv_iconst (v := 3) hx hb d_MM_call_220 (by decide) ?_
                    refine lv_iload hx hb d_MM_call_221 (lv_at hl 3 rfl) ?_
                    refine lv_imul hx hb d_MM_call_223 ?_
                    rw [mul3 _]
                    refine lv_iload hx hb d_MM_call_224 (lv_at hl 0 rfl) ?_
                    refine lv_iadd hx hb d_MM_call_226 ?_
                    rw [show nI (3 * i) + 0 = nI (3 * i + 0) from nI_add _ 0]
                    refine g_iald (v := (iX (P.getD i i0)).1) hx hb hK.1 hP 0 (show A20 (36, 0) = some (ad 15, .inl (cI, 480, .inl (Fx 15))) from hMn.2.1 15 rfl) rfl (vp_in_nI (show 3 * i + 0 < 480 by omega) (by omega)) (by rw [(nI_clamp (show 3 * i + 0 < 2 ^ 31 by omega))]; exact (hti.2.2.1 0 (by omega)).trans (argP_0 _)) d_MM_call_227 ?_
                    refine lv_goto (tgt := 232) hx hb d_MM_call_228 (by decide) ?_
                    refine g_iast (k := 3 * (i + 1) + 0) hx hb hK.1 hP hS 0 (show A20 (36, 0) = some (ad 15, .inl (cI, 480, .inl (Fx 15))) from hMn.2.1 15 rfl) rfl (vp_in_nI (show 3 * (i + 1) + 0 < 480 by omega) (by omega)) (nI_clamp (show 3 * (i + 1) + 0 < 2 ^ 31 by omega)) d_MM_call_232 (fun H locs hP hS => ?_)
                    obtain ⟨A41, eA41⟩ : ∃ z, z = gU A20 (36, 0) (ad 15, .inl (cI, 480, .inl (upd (Fx 15) (3 * (i + 1) + 0) ((iX (P.getD i i0)).1)))) := ⟨_, rfl⟩
                    replace hP : gP D classes b A41 H := by rw [eA41]; exact hP
                    have hM42 : rMM cI cZ cL A41 h ad (va_up (nF Fx (i + 1) (vv / 8) (vv % 8) (iDp (P.getD i i0) + 1) (nI i)) 15 (upd (Fx 15) (3 * (i + 1) + 0) ((iX (P.getD i i0)).1))) G ((kBu σ).length) rs2.length (i + 1 + 1) (kMk σ) := by rw [eA41]; exact hMn.put 15 rfl _
                    have glA41 : gL A A41 := by rw [eA41]; exact glm.U (by decide)
                    refine lv_iinc (v := 1) (lv' := [(9, .int 1), (8, .int (nI (i + 1))), (7, .int (nI pz)), (6, .int (nI i)), (0, .ref h)]) hx hb d_MM_call_233 hl (k := 0) rfl (by decide) (by decide) rfl (fun ls hl => ?_)
                    refine lv_goto (tgt := 185) hx hb d_MM_call_236 (by decide) ?_
                    refine lv_iload hx hb d_MM_call_185 (lv_at hl 0 rfl) ?_
                    refine lv_iconst (v := 3) hx hb d_MM_call_187 (by decide) ?_
                    refine lv_icmp_ge (tgt := 239) hx hb d_MM_call_188 (by decide) (fun h9 => absurd h9 (by decide)) (fun _ => ?_)
                    refine lv_aload_n hx hb d_MM_call_191 rfl (lv_at hl 4 rfl) ?_
                    refine g_get hx hb hts i_MM hown hK.1 hP (show A41 (20, 0) = some (h, .inr (5, [.ref (ad 0), .ref (ad 1), .int (nI ((kBu σ).length)), .ref (ad 3), .ref (ad 4), .ref (ad 5), .ref (ad 6), .ref (ad 7), .ref (ad 8), .ref (ad 9), .ref (ad 10), .int (nI rs2.length), .ref (ad 12), .ref (ad 13), .ref (ad 14), .ref (ad 15), .ref (ad 16), .ref (ad 17), .ref (ad 18), .ref (ad 19), .ref (ad 20), .ref (ad 21), .int (nI (i + 1 + 1)), .int (nI (kMk σ) - 1)])) from hM42.1) rfl 15 (by decide) (hts _ k_458) (fun _ h9 => h9) rfl d_MM_call_192 ?_
                    refine lv_iconst (v := 3) hx hb d_MM_call_195 (by decide) ?_
                    refine lv_iload hx hb d_MM_call_196 (lv_at hl 1 rfl) ?_
                    refine lv_imul hx hb d_MM_call_198 ?_
                    rw [mul3 _]
                    refine lv_iload hx hb d_MM_call_199 (lv_at hl 0 rfl) ?_
                    refine lv_iadd hx hb d_MM_call_201 ?_
                    rw [nI_1 _]
                    refine lv_iload hx hb d_MM_call_202 (lv_at hl 0 rfl) ?_
                    refine lv_aload_n hx hb d_MM_call_204 rfl (lv_at hl 4 rfl) ?_
                    refine g_get hx hb hts i_MM hown hK.1 hP (show A41 (20, 0) = some (h, .inr (5, [.ref (ad 0), .ref (ad 1), .int (nI ((kBu σ).length)), .ref (ad 3), .ref (ad 4), .ref (ad 5), .ref (ad 6), .ref (ad 7), .ref (ad 8), .ref (ad 9), .ref (ad 10), .int (nI rs2.length), .ref (ad 12), .ref (ad 13), .ref (ad 14), .ref (ad 15), .ref (ad 16), .ref (ad 17), .ref (ad 18), .ref (ad 19), .ref (ad 20), .ref (ad 21), .int (nI (i + 1 + 1)), .int (nI (kMk σ) - 1)])) from hM42.1) rfl 14 (by decide) (hts _ k_457) (fun _ h9 => h9) rfl d_MM_call_205 ?_
                    refine lv_iload hx hb d_MM_call_208 (lv_at hl 1 rfl) ?_
                    refine g_iald (v := nI (vv % 8)) hx hb hK.1 hP 0 (show A41 (35, 0) = some (ad 14, .inl (cI, 160, .inl (upd (Fx 14) (i + 1) (nI (vv % 8))))) from hM42.2.1 14 rfl) rfl (vp_in_nI (show i + 1 < 160 by omega) (by omega)) (by rw [(nI_clamp (show i + 1 < 2 ^ 31 by omega))]; exact pk_us) d_MM_call_210 ?_
                    refine lv_iconst (v := 4) hx hb d_MM_call_211 (by decide) ?_
                    refine lv_irem hx hb d_MM_call_212 (by decide) ?_
                    rw [rem4 (show vv % 8 < 2 ^ 31 by omega)]
                    rw [e4]
                    refine lv_icmp_ge (tgt := 231) hx hb d_MM_call_213 (by decide) (fun _ => ?_) (fun h9 => absurd (by decide) h9)
                    refine lv_iconst (v := 0) hx hb d_MM_call_231 (by decide) ?_
                    refine g_iast (k := 3 * (i + 1) + 1) hx hb hK.1 hP hS 0 (show A41 (36, 0) = some (ad 15, .inl (cI, 480, .inl (upd (Fx 15) (3 * (i + 1) + 0) ((iX (P.getD i i0)).1)))) from hM42.2.1 15 rfl) rfl (vp_in_nI (show 3 * (i + 1) + 1 < 480 by omega) (by omega)) (nI_clamp (show 3 * (i + 1) + 1 < 2 ^ 31 by omega)) d_MM_call_232 (fun H locs hP hS => ?_)
                    obtain ⟨A45, eA45⟩ : ∃ z, z = gU A41 (36, 0) (ad 15, .inl (cI, 480, .inl (upd (upd (Fx 15) (3 * (i + 1) + 0) ((iX (P.getD i i0)).1)) (3 * (i + 1) + 1) (0)))) := ⟨_, rfl⟩
                    replace hP : gP D classes b A45 H := by rw [eA45]; exact hP
                    have hM46 : rMM cI cZ cL A45 h ad (va_up (va_up (nF Fx (i + 1) (vv / 8) (vv % 8) (iDp (P.getD i i0) + 1) (nI i)) 15 (upd (Fx 15) (3 * (i + 1) + 0) ((iX (P.getD i i0)).1))) 15 (upd (upd (Fx 15) (3 * (i + 1) + 0) ((iX (P.getD i i0)).1)) (3 * (i + 1) + 1) (0))) G ((kBu σ).length) rs2.length (i + 1 + 1) (kMk σ) := by rw [eA45]; exact hM42.put 15 rfl _
                    have glA45 : gL A A45 := by rw [eA45]; exact glA41.U (by decide)
                    refine lv_iinc (v := 2) (lv' := [(9, .int 2), (8, .int (nI (i + 1))), (7, .int (nI pz)), (6, .int (nI i)), (0, .ref h)]) hx hb d_MM_call_233 hl (k := 0) rfl (by decide) (by decide) rfl (fun ls hl => ?_)
                    refine lv_goto (tgt := 185) hx hb d_MM_call_236 (by decide) ?_
                    refine lv_iload hx hb d_MM_call_185 (lv_at hl 0 rfl) ?_
                    refine lv_iconst (v := 3) hx hb d_MM_call_187 (by decide) ?_
                    refine lv_icmp_ge (tgt := 239) hx hb d_MM_call_188 (by decide) (fun h9 => absurd h9 (by decide)) (fun _ => ?_)
                    refine lv_aload_n hx hb d_MM_call_191 rfl (lv_at hl 4 rfl) ?_
                    refine g_get hx hb hts i_MM hown hK.1 hP (show A45 (20, 0) = some (h, .inr (5, [.ref (ad 0), .ref (ad 1), .int (nI ((kBu σ).length)), .ref (ad 3), .ref (ad 4), .ref (ad 5), .ref (ad 6), .ref (ad 7), .ref (ad 8), .ref (ad 9), .ref (ad 10), .int (nI rs2.length), .ref (ad 12), .ref (ad 13), .ref (ad 14), .ref (ad 15), .ref (ad 16), .ref (ad 17), .ref (ad 18), .ref (ad 19), .ref (ad 20), .ref (ad 21), .int (nI (i + 1 + 1)), .int (nI (kMk σ) - 1)])) from hM46.1) rfl 15 (by decide) (hts _ k_458) (fun _ h9 => h9) rfl d_MM_call_192 ?_
                    refine lv_iconst (v := 3) hx hb d_MM_call_195 (by decide) ?_
                    refine lv_iload hx hb d_MM_call_196 (lv_at hl 1 rfl) ?_
                    refine lv_imul hx hb d_MM_call_198 ?_
                    rw [mul3 _]
                    refine lv_iload hx hb d_MM_call_199 (lv_at hl 0 rfl) ?_
                    refine lv_iadd hx hb d_MM_call_201 ?_
                    rw [add2' _]
                    refine lv_iload hx hb d_MM_call_202 (lv_at hl 0 rfl) ?_
                    refine lv_aload_n hx hb d_MM_call_204 rfl (lv_at hl 4 rfl) ?_
                    refine g_get hx hb hts i_MM hown hK.1 hP (show A45 (20, 0) = some (h, .inr (5, [.ref (ad 0), .ref (ad 1), .int (nI ((kBu σ).length)), .ref (ad 3), .ref (ad 4), .ref (ad 5), .ref (ad 6), .ref (ad 7), .ref (ad 8), .ref (ad 9), .ref (ad 10), .int (nI rs2.length), .ref (ad 12), .ref (ad 13), .ref (ad 14), .ref (ad 15), .ref (ad 16), .ref (ad 17), .ref (ad 18), .ref (ad 19), .ref (ad 20), .ref (ad 21), .int (nI (i + 1 + 1)), .int (nI (kMk σ) - 1)])) from hM46.1) rfl 14 (by decide) (hts _ k_457) (fun _ h9 => h9) rfl d_MM_call_205 ?_
                    refine lv_iload hx hb d_MM_call_208 (lv_at hl 1 rfl) ?_
                    refine g_iald (v := nI (vv % 8)) hx hb hK.1 hP 0 (show A45 (35, 0) = some (ad 14, .inl (cI, 160, .inl (upd (Fx 14) (i + 1) (nI (vv % 8))))) from hM46.2.1 14 rfl) rfl (vp_in_nI (show i + 1 < 160 by omega) (by omega)) (by rw [(nI_clamp (show i + 1 < 2 ^ 31 by omega))]; exact pk_us) d_MM_call_210 ?_
                    refine lv_iconst (v := 4) hx hb d_MM_call_211 (by decide) ?_
                    refine lv_irem hx hb d_MM_call_212 (by decide) ?_
                    rw [rem4 (show vv % 8 < 2 ^ 31 by omega)]
                    rw [e4]
                    refine lv_icmp_ge (tgt := 231) hx hb d_MM_call_213 (by decide) (fun _ => ?_) (fun h9 => absurd (by decide) h9)
                    refine lv_iconst (v := 0) hx hb d_MM_call_231 (by decide) ?_
                    refine g_iast (k := 3 * (i + 1) + 2) hx hb hK.1 hP hS 0 (show A45 (36, 0) = some (ad 15, .inl (cI, 480, .inl (upd (upd (Fx 15) (3 * (i + 1) + 0) ((iX (P.getD i i0)).1)) (3 * (i + 1) + 1) (0)))) from hM46.2.1 15 rfl) rfl (vp_in_nI (show 3 * (i + 1) + 2 < 480 by omega) (by omega)) (nI_clamp (show 3 * (i + 1) + 2 < 2 ^ 31 by omega)) d_MM_call_232 (fun H locs hP hS => ?_)
                    obtain ⟨A49, eA49⟩ : ∃ z, z = gU A45 (36, 0) (ad 15, .inl (cI, 480, .inl (upd (upd (upd (Fx 15) (3 * (i + 1) + 0) ((iX (P.getD i i0)).1)) (3 * (i + 1) + 1) (0)) (3 * (i + 1) + 2) (0)))) := ⟨_, rfl⟩
                    replace hP : gP D classes b A49 H := by rw [eA49]; exact hP
                    have hM50 : rMM cI cZ cL A49 h ad (va_up (va_up (va_up (nF Fx (i + 1) (vv / 8) (vv % 8) (iDp (P.getD i i0) + 1) (nI i)) 15 (upd (Fx 15) (3 * (i + 1) + 0) ((iX (P.getD i i0)).1))) 15 (upd (upd (Fx 15) (3 * (i + 1) + 0) ((iX (P.getD i i0)).1)) (3 * (i + 1) + 1) (0))) 15 (upd (upd (upd (Fx 15) (3 * (i + 1) + 0) ((iX (P.getD i i0)).1)) (3 * (i + 1) + 1) (0)) (3 * (i + 1) + 2) (0))) G ((kBu σ).length) rs2.length (i + 1 + 1) (kMk σ) := by rw [eA49]; exact hM46.put 15 rfl _
                    have glA49 : gL A A49 := by rw [eA49]; exact glA45.U (by decide)
                    refine lv_iinc (v := 3) (lv' := [(9, .int 3), (8, .int (nI (i + 1))), (7, .int (nI pz)), (6, .int (nI i)), (0, .ref h)]) hx hb d_MM_call_233 hl (k := 0) rfl (by decide) (by decide) rfl (fun ls hl => ?_)
                    refine lv_goto (tgt := 185) hx hb d_MM_call_236 (by decide) ?_
                    refine lv_iload hx hb d_MM_call_185 (lv_at hl 0 rfl) ?_
                    refine lv_iconst (v := 3) hx hb d_MM_call_187 (by decide) ?_
                    refine lv_icmp_ge (tgt := 239) hx hb d_MM_call_188 (by decide) (fun _ => ?_) (fun h9 => absurd (by decide) h9)
                    refine lv_iload hx hb d_MM_call_239 (lv_at hl 1 rfl) ?_
                    refine lv_istore (lv' := [(6, .int (nI (i + 1))), (9, .int 3), (8, .int (nI (i + 1))), (7, .int (nI pz)), (0, .ref h)]) hx hb d_MM_call_241 hl (by decide) rfl (fun ls hl => ?_)
                    have hx3 := hx2.trans (cut_1 _ e4)
                    have hMa : rMM cI cZ cL A49 h ad (aF (nF Fx (i + 1) (vv / 8) (vv % 8) (iDp (P.getD i i0) + 1) (nI i)) (i + 1) x2) G ((kBu σ).length) rs2.length (i + 1 + 1) (kMk σ) := by rw [hx3]; exact hM50
                    refine lv_aload_n hx hb d_MM_call_243 rfl (lv_at hl 4 rfl) ?_
                    refine lv_iload hx hb d_MM_call_244 (lv_at hl 0 rfl) ?_
                    refine g_ci (B := fun A2 H => gP D classes b A2 H) (g_runV (As := [.int (nI (i + 1))]) (rest := []) ⟨hx, hb, hml, hown, hts⟩ (c_MM_action l hMa (rs := rs2) hR2.2.1 hU3.2.2.1 hU3.1 (i := i + 1) (by omega) (a := fun k => iRu (P.getD k i0)) (ruLeU hU3) (fun k hk => (pk_un (Nat.ne_of_lt hk)).trans (hR2.2.2.2.2.1 k (show k < (P).length by omega)).2.2.2.2.2.1) hU3.2.2.2.2 (mk := vv / 8) (mt := vv % 8) (x := x2) (by omega) pk_us (fun j hj => aF_15 _ _ _ j hj) (by omega) pk_us pk_us) st_MM_action k_549 ⟨rfl, rfl, by decide, by decide⟩ rfl (gI.preV hK hS hP (show A49 (20, 0) = some (h, .inr (5, [.ref (ad 0), .ref (ad 1), .int (nI ((kBu σ).length)), .ref (ad 3), .ref (ad 4), .ref (ad 5), .ref (ad 6), .ref (ad 7), .ref (ad 8), .ref (ad 9), .ref (ad 10), .int (nI rs2.length), .ref (ad 12), .ref (ad 13), .ref (ad 14), .ref (ad 15), .ref (ad 16), .ref (ad 17), .ref (ad 18), .ref (ad 19), .ref (ad 20), .ref (ad 21), .int (nI (i + 1 + 1)), .int (nI (kMk σ) - 1)])) from hM50.1) rfl _) rfl hl.1 rfl (Nat.le_of_ble_eq_true rfl) d_MM_call_246 ⟨by decide, by decide⟩) hS (fun r54 A52 H locs hp53 hP hS => ?_)
                    replace hP : gP D classes b A52 H := hP
                    refine W.widen (k := 0) (n := 0) (by decide) (by decide) ?_
                    obtain ⟨hz2, hMc, glc⟩ := hp53
                    rw [hz2, ← hr2]
                    have gld := gL.trans glA49 glc
                    refine lv_istore (lv' := [(7, .int (actN rs2 r2)), (6, .int (nI (i + 1))), (9, .int 3), (8, .int (nI (i + 1))), (0, .ref h)]) hx hb d_MM_call_249 hl (by decide) rfl (fun ls hl => ?_)
                    refine lv_goto (tgt := 108) hx hb d_MM_call_251 (by decide) ?_
                    have hMd : rMM cI cZ cL A52 h ad (sF Fx (i + 1) (vv / 8) (vv % 8) (iDp (P.getD i i0) + 1) (nI i) x2 r2) G (kBu σ).length rs2.length (P ++ [t2]).length (kMk σ) := by rw [lenS, ← hi, hr2]; exact hMc
                    have hRd : mRep (sF Fx (i + 1) (vv / 8) (vv % 8) (iDp (P.getD i i0) + 1) (nI i) x2 r2) G (rs2, (P ++ [t2]), kSt σ, kBu σ, kMk σ) (kIs σ).length := by rw [ht2]; exact hR2.step (ans := ans) hi.symm (by omega) (by omega)
                    have hUd : wfU rs2 (P ++ [t2]) (i + 1) := by
                      rw [hi]
                      refine wfU.snoc hUu (by omega) ?_ ?_
                      · rw [ht2]; exact ⟨by show vv / 8 < 4; omega, by show vv % 8 < 8; omega⟩
                      · rw [ht2]; show r2 ≤ _; rw [hr2]; exact ruFor_le _ _ _ _
                    exact ih rs2 (P ++ [t2]) _ (i + 1) _ _ _ _ _ (by rw [lenS]; omega) (by omega) hUd (fun d hd => by
                      rw [lenS] at hd
                      by_cases e : (kIs σ).length + d = P.length
                      · rw [e, getD_r, ht2]
                        show nI i = kv (kIs σ).length d
                        obtain ⟨d2, rfl⟩ : ∃ z, d = z + 1 := ⟨d - 1, by omega⟩
                        rw [kv_p]; congr 1; omega
                      · rw [getD_l (by omega)]; exact hch d (by omega)) (fun k h1 h2 => by
                      rw [lenS] at h2
                      by_cases e : k = P.length
                      · rw [e, getD_r, ht2]
                      · rw [getD_l (by omega)]; exact han k h1 (by omega)) (by rw [hlst, ht2]; show iDp (P.getD i i0) + 1 + f = 3; omega) (by rw [hlst, ht2]; exact Prod.ext e1 (Prod.ext rfl e3)) (by rw [← hPfM, ← e2, e3, ht2]; simp) hRd hP hS hMd gld (by rw [hlst, ht2]; exact lv_sub hl [0, 1, 4] rfl)
                  · skip
                    refine lv_iconst (v := 0) hx hb d_MM_call_182 (by decide) ?_
                    refine lv_istore (lv' := [(9, .int 0), (8, .int (nI (i + 1))), (7, .int (nI pz)), (6, .int (nI i)), (0, .ref h)]) hx hb d_MM_call_183 hl (by decide) rfl (fun ls hl => ?_)
                    refine lv_iload hx hb d_MM_call_185 (lv_at hl 0 rfl) ?_
                    refine lv_iconst (v := 3) hx hb d_MM_call_187 (by decide) ?_
                    refine lv_icmp_ge (tgt := 239) hx hb d_MM_call_188 (by decide) (fun h9 => absurd h9 (by decide)) (fun _ => ?_)
                    refine lv_aload_n hx hb d_MM_call_191 rfl (lv_at hl 4 rfl) ?_
                    refine g_get hx hb hts i_MM hown hK.1 hP (show A20 (20, 0) = some (h, .inr (5, [.ref (ad 0), .ref (ad 1), .int (nI ((kBu σ).length)), .ref (ad 3), .ref (ad 4), .ref (ad 5), .ref (ad 6), .ref (ad 7), .ref (ad 8), .ref (ad 9), .ref (ad 10), .int (nI rs2.length), .ref (ad 12), .ref (ad 13), .ref (ad 14), .ref (ad 15), .ref (ad 16), .ref (ad 17), .ref (ad 18), .ref (ad 19), .ref (ad 20), .ref (ad 21), .int (nI (i + 1 + 1)), .int (nI (kMk σ) - 1)])) from hMn.1) rfl 15 (by decide) (hts _ k_458) (fun _ h9 => h9) rfl d_MM_call_192 ?_
                    refine lv_iconst (v := 3) hx hb d_MM_call_195 (by decide) ?_
                    refine lv_iload hx hb d_MM_call_196 (lv_at hl 1 rfl) ?_
                    refine lv_imul hx hb d_MM_call_198 ?_
                    rw [mul3 _]
                    refine lv_iload hx hb d_MM_call_199 (lv_at hl 0 rfl) ?_
                    refine lv_iadd hx hb d_MM_call_201 ?_
                    rw [show nI (3 * (i + 1)) + 0 = nI (3 * (i + 1) + 0) from nI_add _ 0]
                    refine lv_iload hx hb d_MM_call_202 (lv_at hl 0 rfl) ?_
                    refine lv_aload_n hx hb d_MM_call_204 rfl (lv_at hl 4 rfl) ?_
                    refine g_get hx hb hts i_MM hown hK.1 hP (show A20 (20, 0) = some (h, .inr (5, [.ref (ad 0), .ref (ad 1), .int (nI ((kBu σ).length)), .ref (ad 3), .ref (ad 4), .ref (ad 5), .ref (ad 6), .ref (ad 7), .ref (ad 8), .ref (ad 9), .ref (ad 10), .int (nI rs2.length), .ref (ad 12), .ref (ad 13), .ref (ad 14), .ref (ad 15), .ref (ad 16), .ref (ad 17), .ref (ad 18), .ref (ad 19), .ref (ad 20), .ref (ad 21), .int (nI (i + 1 + 1)), .int (nI (kMk σ) - 1)])) from hMn.1) rfl 14 (by decide) (hts _ k_457) (fun _ h9 => h9) rfl d_MM_call_205 ?_
                    refine lv_iload hx hb d_MM_call_208 (lv_at hl 1 rfl) ?_
                    refine g_iald (v := nI (vv % 8)) hx hb hK.1 hP 0 (show A20 (35, 0) = some (ad 14, .inl (cI, 160, .inl (upd (Fx 14) (i + 1) (nI (vv % 8))))) from hMn.2.1 14 rfl) rfl (vp_in_nI (show i + 1 < 160 by omega) (by omega)) (by rw [(nI_clamp (show i + 1 < 2 ^ 31 by omega))]; exact pk_us) d_MM_call_210 ?_
                    refine lv_iconst (v := 4) hx hb d_MM_call_211 (by decide) ?_
                    refine lv_irem hx hb d_MM_call_212 (by decide) ?_
                    rw [rem4 (show vv % 8 < 2 ^ 31 by omega)]
                    rw [e4]
                    refine lv_icmp_ge (tgt := 231) hx hb d_MM_call_213 (by decide) (fun h9 => absurd h9 (by decide)) (fun _ => ?_)
                    refine lv_aload_n hx hb d_MM_call_216 rfl (lv_at hl 4 rfl) ?_
                    refine g_get hx hb hts i_MM hown hK.1 hP (show A20 (20, 0) = some (h, .inr (5, [.ref (ad 0), .ref (ad 1), .int (nI ((kBu σ).length)), .ref (ad 3), .ref (ad 4), .ref (ad 5), .ref (ad 6), .ref (ad 7), .ref (ad 8), .ref (ad 9), .ref (ad 10), .int (nI rs2.length), .ref (ad 12), .ref (ad 13), .ref (ad 14), .ref (ad 15), .ref (ad 16), .ref (ad 17), .ref (ad 18), .ref (ad 19), .ref (ad 20), .ref (ad 21), .int (nI (i + 1 + 1)), .int (nI (kMk σ) - 1)])) from hMn.1) rfl 15 (by decide) (hts _ k_458) (fun _ h9 => h9) rfl d_MM_call_217 ?_
                    refine lv_iconst (v := 3) hx hb d_MM_call_220 (by decide) ?_
                    refine lv_iload hx hb d_MM_call_221 (lv_at hl 3 rfl) ?_
                    refine lv_imul hx hb d_MM_call_223 ?_
                    rw [mul3 _]
                    refine lv_iload hx hb d_MM_call_224 (lv_at hl 0 rfl) ?_
                    refine lv_iadd hx hb d_MM_call_226 ?_
                    rw [show nI (3 * i) + 0 = nI (3 * i + 0) from nI_add _ 0]
                    refine g_iald (v := (iX (P.getD i i0)).1) hx hb hK.1 hP 0 (show A20 (36, 0) = some (ad 15, .inl (cI, 480, .inl (Fx 15))) from hMn.2.1 15 rfl) rfl (vp_in_nI (show 3 * i + 0 < 480 by omega) (by omega)) (by rw [(nI_clamp (show 3 * i + 0 < 2 ^ 31 by omega))]; exact (hti.2.2.1 0 (by omega)).trans (argP_0 _)) d_MM_call_227 ?_
                    refine lv_goto (tgt := 232) hx hb d_MM_call_228 (by decide) ?_
                    refine g_iast (k := 3 * (i + 1) + 0) hx hb hK.1 hP hS 0 (show A20 (36, 0) = some (ad 15, .inl (cI, 480, .inl (Fx 15))) from hMn.2.1 15 rfl) rfl (vp_in_nI (show 3 * (i + 1) + 0 < 480 by omega) (by omega)) (nI_clamp (show 3 * (i + 1) + 0 < 2 ^ 31 by omega)) d_MM_call_232 (fun H locs hP hS => ?_)
                    obtain ⟨A57, eA57⟩ : ∃ z, z = gU A20 (36, 0) (ad 15, .inl (cI, 480, .inl (upd (Fx 15) (3 * (i + 1) + 0) ((iX (P.getD i i0)).1)))) := ⟨_, rfl⟩
                    replace hP : gP D classes b A57 H := by rw [eA57]; exact hP
                    have hM58 : rMM cI cZ cL A57 h ad (va_up (nF Fx (i + 1) (vv / 8) (vv % 8) (iDp (P.getD i i0) + 1) (nI i)) 15 (upd (Fx 15) (3 * (i + 1) + 0) ((iX (P.getD i i0)).1))) G ((kBu σ).length) rs2.length (i + 1 + 1) (kMk σ) := by rw [eA57]; exact hMn.put 15 rfl _
                    have glA57 : gL A A57 := by rw [eA57]; exact glm.U (by decide)
                    refine lv_iinc (v := 1) (lv' := [(9, .int 1), (8, .int (nI (i + 1))), (7, .int (nI pz)), (6, .int (nI i)), (0, .ref h)]) hx hb d_MM_call_233 hl (k := 0) rfl (by decide) (by decide) rfl (fun ls hl => ?_)
                    refine lv_goto (tgt := 185) hx hb d_MM_call_236 (by decide) ?_
                    refine lv_iload hx hb d_MM_call_185 (lv_at hl 0 rfl) ?_
                    refine lv_iconst (v := 3) hx hb d_MM_call_187 (by decide) ?_
                    refine lv_icmp_ge (tgt := 239) hx hb d_MM_call_188 (by decide) (fun h9 => absurd h9 (by decide)) (fun _ => ?_)
                    refine lv_aload_n hx hb d_MM_call_191 rfl (lv_at hl 4 rfl) ?_
                    refine g_get hx hb hts i_MM hown hK.1 hP (show A57 (20, 0) = some (h, .inr (5, [.ref (ad 0), .ref (ad 1), .int (nI ((kBu σ).length)), .ref (ad 3), .ref (ad 4), .ref (ad 5), .ref (ad 6), .ref (ad 7), .ref (ad 8), .ref (ad 9), .ref (ad 10), .int (nI rs2.length), .ref (ad 12), .ref (ad 13), .ref (ad 14), .ref (ad 15), .ref (ad 16), .ref (ad 17), .ref (ad 18), .ref (ad 19), .ref (ad 20), .ref (ad 21), .int (nI (i + 1 + 1)), .int (nI (kMk σ) - 1)])) from hM58.1) rfl 15 (by decide) (hts _ k_458) (fun _ h9 => h9) rfl d_MM_call_192 ?_
                    refine lv_iconst (v := 3) hx hb d_MM_call_195 (by decide) ?_
                    refine lv_iload hx hb d_MM_call_196 (lv_at hl 1 rfl) ?_
                    refine lv_imul hx hb d_MM_call_198 ?_
                    rw [mul3 _]
                    refine lv_iload hx hb d_MM_call_199 (lv_at hl 0 rfl) ?_
                    refine lv_iadd hx hb d_MM_call_201 ?_
                    rw [nI_1 _]
                    refine lv_iload hx hb d_MM_call_202 (lv_at hl 0 rfl) ?_
                    refine lv_aload_n hx hb d_MM_call_204 rfl (lv_at hl 4 rfl) ?_
                    refine g_get hx hb hts i_MM hown hK.1 hP (show A57 (20, 0) = some (h, .inr (5, [.ref (ad 0), .ref (ad 1), .int (nI ((kBu σ).length)), .ref (ad 3), .ref (ad 4), .ref (ad 5), .ref (ad 6), .ref (ad 7), .ref (ad 8), .ref (ad 9), .ref (ad 10), .int (nI rs2.length), .ref (ad 12), .ref (ad 13), .ref (ad 14), .ref (ad 15), .ref (ad 16), .ref (ad 17), .ref (ad 18), .ref (ad 19), .ref (ad 20), .ref (ad 21), .int (nI (i + 1 + 1)), .int (nI (kMk σ) - 1)])) from hM58.1) rfl 14 (by decide) (hts _ k_457) (fun _ h9 => h9) rfl d_MM_call_205 ?_
                    refine lv_iload hx hb d_MM_call_208 (lv_at hl 1 rfl) ?_
                    refine g_iald (v := nI (vv % 8)) hx hb hK.1 hP 0 (show A57 (35, 0) = some (ad 14, .inl (cI, 160, .inl (upd (Fx 14) (i + 1) (nI (vv % 8))))) from hM58.2.1 14 rfl) rfl (vp_in_nI (show i + 1 < 160 by omega) (by omega)) (by rw [(nI_clamp (show i + 1 < 2 ^ 31 by omega))]; exact pk_us) d_MM_call_210 ?_
                    refine lv_iconst (v := 4) hx hb d_MM_call_211 (by decide) ?_
                    refine lv_irem hx hb d_MM_call_212 (by decide) ?_
                    rw [rem4 (show vv % 8 < 2 ^ 31 by omega)]
                    rw [e4]
                    refine lv_icmp_ge (tgt := 231) hx hb d_MM_call_213 (by decide) (fun h9 => absurd h9 (by decide)) (fun _ => ?_)
                    refine lv_aload_n hx hb d_MM_call_216 rfl (lv_at hl 4 rfl) ?_
                    refine g_get hx hb hts i_MM hown hK.1 hP (show A57 (20, 0) = some (h, .inr (5, [.ref (ad 0), .ref (ad 1), .int (nI ((kBu σ).length)), .ref (ad 3), .ref (ad 4), .ref (ad 5), .ref (ad 6), .ref (ad 7), .ref (ad 8), .ref (ad 9), .ref (ad 10), .int (nI rs2.length), .ref (ad 12), .ref (ad 13), .ref (ad 14), .ref (ad 15), .ref (ad 16), .ref (ad 17), .ref (ad 18), .ref (ad 19), .ref (ad 20), .ref (ad 21), .int (nI (i + 1 + 1)), .int (nI (kMk σ) - 1)])) from hM58.1) rfl 15 (by decide) (hts _ k_458) (fun _ h9 => h9) rfl d_MM_call_217 ?_
                    refine lv_iconst (v := 3) hx hb d_MM_call_220 (by decide) ?_
                    refine lv_iload hx hb d_MM_call_221 (lv_at hl 3 rfl) ?_
                    refine lv_imul hx hb d_MM_call_223 ?_
                    rw [mul3 _]
                    refine lv_iload hx hb d_MM_call_224 (lv_at hl 0 rfl) ?_
                    refine lv_iadd hx hb d_MM_call_226 ?_
                    rw [nI_1 _]
                    refine g_iald (v := (iX (P.getD i i0)).2.1) hx hb hK.1 hP 0 (show A57 (36, 0) = some (ad 15, .inl (cI, 480, .inl (upd (Fx 15) (3 * (i + 1) + 0) ((iX (P.getD i i0)).1)))) from hM58.2.1 15 rfl) rfl (vp_in_nI (show 3 * i + 1 < 480 by omega) (by omega)) (by rw [(nI_clamp (show 3 * i + 1 < 2 ^ 31 by omega))]; exact (by rw [pk_un (by omega)]; exact (hti.2.2.1 1 (by omega)).trans (argP_1 _))) d_MM_call_227 ?_
                    refine lv_goto (tgt := 232) hx hb d_MM_call_228 (by decide) ?_
                    refine g_iast (k := 3 * (i + 1) + 1) hx hb hK.1 hP hS 0 (show A57 (36, 0) = some (ad 15, .inl (cI, 480, .inl (upd (Fx 15) (3 * (i + 1) + 0) ((iX (P.getD i i0)).1)))) from hM58.2.1 15 rfl) rfl (vp_in_nI (show 3 * (i + 1) + 1 < 480 by omega) (by omega)) (nI_clamp (show 3 * (i + 1) + 1 < 2 ^ 31 by omega)) d_MM_call_232 (fun H locs hP hS => ?_)
                    obtain ⟨A61, eA61⟩ : ∃ z, z = gU A57 (36, 0) (ad 15, .inl (cI, 480, .inl (upd (upd (Fx 15) (3 * (i + 1) + 0) ((iX (P.getD i i0)).1)) (3 * (i + 1) + 1) ((iX (P.getD i i0)).2.1)))) := ⟨_, rfl⟩
                    replace hP : gP D classes b A61 H := by rw [eA61]; exact hP
                    have hM62 : rMM cI cZ cL A61 h ad (va_up (va_up (nF Fx (i + 1) (vv / 8) (vv % 8) (iDp (P.getD i i0) + 1) (nI i)) 15 (upd (Fx 15) (3 * (i + 1) + 0) ((iX (P.getD i i0)).1))) 15 (upd (upd (Fx 15) (3 * (i + 1) + 0) ((iX (P.getD i i0)).1)) (3 * (i + 1) + 1) ((iX (P.getD i i0)).2.1))) G ((kBu σ).length) rs2.length (i + 1 + 1) (kMk σ) := by rw [eA61]; exact hM58.put 15 rfl _
                    have glA61 : gL A A61 := by rw [eA61]; exact glA57.U (by decide)
                    refine lv_iinc (v := 2) (lv' := [(9, .int 2), (8, .int (nI (i + 1))), (7, .int (nI pz)), (6, .int (nI i)), (0, .ref h)]) hx hb d_MM_call_233 hl (k := 0) rfl (by decide) (by decide) rfl (fun ls hl => ?_)
                    refine lv_goto (tgt := 185) hx hb d_MM_call_236 (by decide) ?_
                    refine lv_iload hx hb d_MM_call_185 (lv_at hl 0 rfl) ?_
                    refine lv_iconst (v := 3) hx hb d_MM_call_187 (by decide) ?_
                    refine lv_icmp_ge (tgt := 239) hx hb d_MM_call_188 (by decide) (fun h9 => absurd h9 (by decide)) (fun _ => ?_)
                    refine lv_aload_n hx hb d_MM_call_191 rfl (lv_at hl 4 rfl) ?_
                    refine g_get hx hb hts i_MM hown hK.1 hP (show A61 (20, 0) = some (h, .inr (5, [.ref (ad 0), .ref (ad 1), .int (nI ((kBu σ).length)), .ref (ad 3), .ref (ad 4), .ref (ad 5), .ref (ad 6), .ref (ad 7), .ref (ad 8), .ref (ad 9), .ref (ad 10), .int (nI rs2.length), .ref (ad 12), .ref (ad 13), .ref (ad 14), .ref (ad 15), .ref (ad 16), .ref (ad 17), .ref (ad 18), .ref (ad 19), .ref (ad 20), .ref (ad 21), .int (nI (i + 1 + 1)), .int (nI (kMk σ) - 1)])) from hM62.1) rfl 15 (by decide) (hts _ k_458) (fun _ h9 => h9) rfl d_MM_call_192 ?_
                    refine lv_iconst (v := 3) hx hb d_MM_call_195 (by decide) ?_
                    refine lv_iload hx hb d_MM_call_196 (lv_at hl 1 rfl) ?_
                    refine lv_imul hx hb d_MM_call_198 ?_
                    rw [mul3 _]
                    refine lv_iload hx hb d_MM_call_199 (lv_at hl 0 rfl) ?_
                    refine lv_iadd hx hb d_MM_call_201 ?_
                    rw [add2' _]
                    refine lv_iload hx hb d_MM_call_202 (lv_at hl 0 rfl) ?_
                    refine lv_aload_n hx hb d_MM_call_204 rfl (lv_at hl 4 rfl) ?_
                    refine g_get hx hb hts i_MM hown hK.1 hP (show A61 (20, 0) = some (h, .inr (5, [.ref (ad 0), .ref (ad 1), .int (nI ((kBu σ).length)), .ref (ad 3), .ref (ad 4), .ref (ad 5), .ref (ad 6), .ref (ad 7), .ref (ad 8), .ref (ad 9), .ref (ad 10), .int (nI rs2.length), .ref (ad 12), .ref (ad 13), .ref (ad 14), .ref (ad 15), .ref (ad 16), .ref (ad 17), .ref (ad 18), .ref (ad 19), .ref (ad 20), .ref (ad 21), .int (nI (i + 1 + 1)), .int (nI (kMk σ) - 1)])) from hM62.1) rfl 14 (by decide) (hts _ k_457) (fun _ h9 => h9) rfl d_MM_call_205 ?_
                    refine lv_iload hx hb d_MM_call_208 (lv_at hl 1 rfl) ?_
                    refine g_iald (v := nI (vv % 8)) hx hb hK.1 hP 0 (show A61 (35, 0) = some (ad 14, .inl (cI, 160, .inl (upd (Fx 14) (i + 1) (nI (vv % 8))))) from hM62.2.1 14 rfl) rfl (vp_in_nI (show i + 1 < 160 by omega) (by omega)) (by rw [(nI_clamp (show i + 1 < 2 ^ 31 by omega))]; exact pk_us) d_MM_call_210 ?_
                    refine lv_iconst (v := 4) hx hb d_MM_call_211 (by decide) ?_
                    refine lv_irem hx hb d_MM_call_212 (by decide) ?_
                    rw [rem4 (show vv % 8 < 2 ^ 31 by omega)]
                    rw [e4]
                    refine lv_icmp_ge (tgt := 231) hx hb d_MM_call_213 (by decide) (fun _ => ?_) (fun h9 => absurd (by decide) h9)
                    refine lv_iconst (v := 0) hx hb d_MM_call_231 (by decide) ?_
                    refine g_iast (k := 3 * (i + 1) + 2) hx hb hK.1 hP hS 0 (show A61 (36, 0) = some (ad 15, .inl (cI, 480, .inl (upd (upd (Fx 15) (3 * (i + 1) + 0) ((iX (P.getD i i0)).1)) (3 * (i + 1) + 1) ((iX (P.getD i i0)).2.1)))) from hM62.2.1 15 rfl) rfl (vp_in_nI (show 3 * (i + 1) + 2 < 480 by omega) (by omega)) (nI_clamp (show 3 * (i + 1) + 2 < 2 ^ 31 by omega)) d_MM_call_232 (fun H locs hP hS => ?_)
                    obtain ⟨A65, eA65⟩ : ∃ z, z = gU A61 (36, 0) (ad 15, .inl (cI, 480, .inl (upd (upd (upd (Fx 15) (3 * (i + 1) + 0) ((iX (P.getD i i0)).1)) (3 * (i + 1) + 1) ((iX (P.getD i i0)).2.1)) (3 * (i + 1) + 2) (0)))) := ⟨_, rfl⟩
                    replace hP : gP D classes b A65 H := by rw [eA65]; exact hP
                    have hM66 : rMM cI cZ cL A65 h ad (va_up (va_up (va_up (nF Fx (i + 1) (vv / 8) (vv % 8) (iDp (P.getD i i0) + 1) (nI i)) 15 (upd (Fx 15) (3 * (i + 1) + 0) ((iX (P.getD i i0)).1))) 15 (upd (upd (Fx 15) (3 * (i + 1) + 0) ((iX (P.getD i i0)).1)) (3 * (i + 1) + 1) ((iX (P.getD i i0)).2.1))) 15 (upd (upd (upd (Fx 15) (3 * (i + 1) + 0) ((iX (P.getD i i0)).1)) (3 * (i + 1) + 1) ((iX (P.getD i i0)).2.1)) (3 * (i + 1) + 2) (0))) G ((kBu σ).length) rs2.length (i + 1 + 1) (kMk σ) := by rw [eA65]; exact hM62.put 15 rfl _
                    have glA65 : gL A A65 := by rw [eA65]; exact glA61.U (by decide)
                    refine lv_iinc (v := 3) (lv' := [(9, .int 3), (8, .int (nI (i + 1))), (7, .int (nI pz)), (6, .int (nI i)), (0, .ref h)]) hx hb d_MM_call_233 hl (k := 0) rfl (by decide) (by decide) rfl (fun ls hl => ?_)
                    refine lv_goto (tgt := 185) hx hb d_MM_call_236 (by decide) ?_
                    refine lv_iload hx hb d_MM_call_185 (lv_at hl 0 rfl) ?_
                    refine lv_iconst (v := 3) hx hb d_MM_call_187 (by decide) ?_
                    refine lv_icmp_ge (tgt := 239) hx hb d_MM_call_188 (by decide) (fun _ => ?_) (fun h9 => absurd (by decide) h9)
                    refine lv_iload hx hb d_MM_call_239 (lv_at hl 1 rfl) ?_
                    refine lv_istore (lv' := [(6, .int (nI (i + 1))), (9, .int 3), (8, .int (nI (i + 1))), (7, .int (nI pz)), (0, .ref h)]) hx hb d_MM_call_241 hl (by decide) rfl (fun ls hl => ?_)
                    have hx3 := hx2.trans (cut_2 _ e4)
                    have hMa : rMM cI cZ cL A65 h ad (aF (nF Fx (i + 1) (vv / 8) (vv % 8) (iDp (P.getD i i0) + 1) (nI i)) (i + 1) x2) G ((kBu σ).length) rs2.length (i + 1 + 1) (kMk σ) := by rw [hx3]; exact hM66
                    refine lv_aload_n hx hb d_MM_call_243 rfl (lv_at hl 4 rfl) ?_
                    refine lv_iload hx hb d_MM_call_244 (lv_at hl 0 rfl) ?_
                    refine g_ci (B := fun A2 H => gP D classes b A2 H) (g_runV (As := [.int (nI (i + 1))]) (rest := []) ⟨hx, hb, hml, hown, hts⟩ (c_MM_action l hMa (rs := rs2) hR2.2.1 hU3.2.2.1 hU3.1 (i := i + 1) (by omega) (a := fun k => iRu (P.getD k i0)) (ruLeU hU3) (fun k hk => (pk_un (Nat.ne_of_lt hk)).trans (hR2.2.2.2.2.1 k (show k < (P).length by omega)).2.2.2.2.2.1) hU3.2.2.2.2 (mk := vv / 8) (mt := vv % 8) (x := x2) (by omega) pk_us (fun j hj => aF_15 _ _ _ j hj) (by omega) pk_us pk_us) st_MM_action k_549 ⟨rfl, rfl, by decide, by decide⟩ rfl (gI.preV hK hS hP (show A65 (20, 0) = some (h, .inr (5, [.ref (ad 0), .ref (ad 1), .int (nI ((kBu σ).length)), .ref (ad 3), .ref (ad 4), .ref (ad 5), .ref (ad 6), .ref (ad 7), .ref (ad 8), .ref (ad 9), .ref (ad 10), .int (nI rs2.length), .ref (ad 12), .ref (ad 13), .ref (ad 14), .ref (ad 15), .ref (ad 16), .ref (ad 17), .ref (ad 18), .ref (ad 19), .ref (ad 20), .ref (ad 21), .int (nI (i + 1 + 1)), .int (nI (kMk σ) - 1)])) from hM66.1) rfl _) rfl hl.1 rfl (Nat.le_of_ble_eq_true rfl) d_MM_call_246 ⟨by decide, by decide⟩) hS (fun r70 A68 H locs hp69 hP hS => ?_)
                    replace hP : gP D classes b A68 H := hP
                    refine W.widen (k := 0) (n := 0) (by decide) (by decide) ?_
                    obtain ⟨hz2, hMc, glc⟩ := hp69
                    rw [hz2, ← hr2]
                    have gld := gL.trans glA65 glc
                    refine lv_istore (lv' := [(7, .int (actN rs2 r2)), (6, .int (nI (i + 1))), (9, .int 3), (8, .int (nI (i + 1))), (0, .ref h)]) hx hb d_MM_call_249 hl (by decide) rfl (fun ls hl => ?_)
                    refine lv_goto (tgt := 108) hx hb d_MM_call_251 (by decide) ?_
                    have hMd : rMM cI cZ cL A68 h ad (sF Fx (i + 1) (vv / 8) (vv % 8) (iDp (P.getD i i0) + 1) (nI i) x2 r2) G (kBu σ).length rs2.length (P ++ [t2]).length (kMk σ) := by rw [lenS, ← hi, hr2]; exact hMc
                    have hRd : mRep (sF Fx (i + 1) (vv / 8) (vv % 8) (iDp (P.getD i i0) + 1) (nI i) x2 r2) G (rs2, (P ++ [t2]), kSt σ, kBu σ, kMk σ) (kIs σ).length := by rw [ht2]; exact hR2.step (ans := ans) hi.symm (by omega) (by omega)
                    have hUd : wfU rs2 (P ++ [t2]) (i + 1) := by
                      rw [hi]
                      refine wfU.snoc hUu (by omega) ?_ ?_
                      · rw [ht2]; exact ⟨by show vv / 8 < 4; omega, by show vv % 8 < 8; omega⟩
                      · rw [ht2]; show r2 ≤ _; rw [hr2]; exact ruFor_le _ _ _ _
                    exact ih rs2 (P ++ [t2]) _ (i + 1) _ _ _ _ _ (by rw [lenS]; omega) (by omega) hUd (fun d hd => by
                      rw [lenS] at hd
                      by_cases e : (kIs σ).length + d = P.length
                      · rw [e, getD_r, ht2]
                        show nI i = kv (kIs σ).length d
                        obtain ⟨d2, rfl⟩ : ∃ z, d = z + 1 := ⟨d - 1, by omega⟩
                        rw [kv_p]; congr 1; omega
                      · rw [getD_l (by omega)]; exact hch d (by omega)) (fun k h1 h2 => by
                      rw [lenS] at h2
                      by_cases e : k = P.length
                      · rw [e, getD_r, ht2]
                      · rw [getD_l (by omega)]; exact han k h1 (by omega)) (by rw [hlst, ht2]; show iDp (P.getD i i0) + 1 + f = 3; omega) (by rw [hlst, ht2]; exact Prod.ext e1 (Prod.ext rfl e3)) (by rw [← hPfM, ← e2, e3, ht2]; simp) hRd hP hS hMd gld (by rw [hlst, ht2]; exact lv_sub hl [0, 1, 4] rfl)
                  · skip
                    refine lv_iconst (v := 0) hx hb d_MM_call_182 (by decide) ?_
                    refine lv_istore (lv' := [(9, .int 0), (8, .int (nI (i + 1))), (7, .int (nI pz)), (6, .int (nI i)), (0, .ref h)]) hx hb d_MM_call_183 hl (by decide) rfl (fun ls hl => ?_)
                    refine lv_iload hx hb d_MM_call_185 (lv_at hl 0 rfl) ?_
                    refine lv_iconst (v := 3) hx hb d_MM_call_187 (by decide) ?_
                    refine lv_icmp_ge (tgt := 239) hx hb d_MM_call_188 (by decide) (fun h9 => absurd h9 (by decide)) (fun _ => ?_)
                    refine lv_aload_n hx hb d_MM_call_191 rfl (lv_at hl 4 rfl) ?_
                    refine g_get hx hb hts i_MM hown hK.1 hP (show A20 (20, 0) = some (h, .inr (5, [.ref (ad 0), .ref (ad 1), .int (nI ((kBu σ).length)), .ref (ad 3), .ref (ad 4), .ref (ad 5), .ref (ad 6), .ref (ad 7), .ref (ad 8), .ref (ad 9), .ref (ad 10), .int (nI rs2.length), .ref (ad 12), .ref (ad 13), .ref (ad 14), .ref (ad 15), .ref (ad 16), .ref (ad 17), .ref (ad 18), .ref (ad 19), .ref (ad 20), .ref (ad 21), .int (nI (i + 1 + 1)), .int (nI (kMk σ) - 1)])) from hMn.1) rfl 15 (by decide) (hts _ k_458) (fun _ h9 => h9) rfl d_MM_call_192 ?_
                    refine lv_iconst (v := 3) hx hb d_MM_call_195 (by decide) ?_
                    refine lv_iload hx hb d_MM_call_196 (lv_at hl 1 rfl) ?_
                    refine lv_imul hx hb d_MM_call_198 ?_
                    rw [mul3 _]
                    refine lv_iload hx hb d_MM_call_199 (lv_at hl 0 rfl) ?_
                    refine lv_iadd hx hb d_MM_call_201 ?_
                    rw [show nI (3 * (i + 1)) + 0 = nI (3 * (i + 1) + 0) from nI_add _ 0]
                    refine lv_iload hx hb d_MM_call_202 (lv_at hl 0 rfl) ?_
                    refine lv_aload_n hx hb d_MM_call_204 rfl (lv_at hl 4 rfl) ?_
                    refine g_get hx hb hts i_MM hown hK.1 hP (show A20 (20, 0) = some (h, .inr (5, [.ref (ad 0), .ref (ad 1), .int (nI ((kBu σ).length)), .ref (ad 3), .ref (ad 4), .ref (ad 5), .ref (ad 6), .ref (ad 7), .ref (ad 8), .ref (ad 9), .ref (ad 10), .int (nI rs2.length), .ref (ad 12), .ref (ad 13), .ref (ad 14), .ref (ad 15), .ref (ad 16), .ref (ad 17), .ref (ad 18), .ref (ad 19), .ref (ad 20), .ref (ad 21), .int (nI (i + 1 + 1)), .int (nI (kMk σ) - 1)])) from hMn.1) rfl 14 (by decide) (hts _ k_457) (fun _ h9 => h9) rfl d_MM_call_205 ?_
                    refine lv_iload hx hb d_MM_call_208 (lv_at hl 1 rfl) ?_
                    refine g_iald (v := nI (vv % 8)) hx hb hK.1 hP 0 (show A20 (35, 0) = some (ad 14, .inl (cI, 160, .inl (upd (Fx 14) (i + 1) (nI (vv % 8))))) from hMn.2.1 14 rfl) rfl (vp_in_nI (show i + 1 < 160 by omega) (by omega)) (by rw [(nI_clamp (show i + 1 < 2 ^ 31 by omega))]; exact pk_us) d_MM_call_210 ?_
                    refine lv_iconst (v := 4) hx hb d_MM_call_211 (by decide) ?_
                    refine lv_irem hx hb d_MM_call_212 (by decide) ?_
                    rw [rem4 (show vv % 8 < 2 ^ 31 by omega)]
                    rw [e4]
                    refine lv_icmp_ge (tgt := 231) hx hb d_MM_call_213 (by decide) (fun h9 => absurd h9 (by decide)) (fun _ => ?_)
                    refine lv_aload_n hx hb d_MM_call_216 rfl (lv_at hl 4 rfl) ?_
                    refine g_get hx hb hts i_MM hown hK.1 hP (show A20 (20, 0) = some (h, .inr (5, [.ref (ad 0), .ref (ad 1), .int (nI ((kBu σ).length)), .ref (ad 3), .ref (ad 4), .ref (ad 5), .ref (ad 6), .ref (ad 7), .ref (ad 8), .ref (ad 9), .ref (ad 10), .int (nI rs2.length), .ref (ad 12), .ref (ad 13), .ref (ad 14), .ref (ad 15), .ref (ad 16), .ref (ad 17), .ref (ad 18), .ref (ad 19), .ref (ad 20), .ref (ad 21), .int (nI (i + 1 + 1)), .int (nI (kMk σ) - 1)])) from hMn.1) rfl 15 (by decide) (hts _ k_458) (fun _ h9 => h9) rfl d_MM_call_217 ?_
                    refine lv_iconst (v := 3) hx hb d_MM_call_220 (by decide) ?_
                    refine lv_iload hx hb d_MM_call_221 (lv_at hl 3 rfl) ?_
                    refine lv_imul hx hb d_MM_call_223 ?_
                    rw [mul3 _]
                    refine lv_iload hx hb d_MM_call_224 (lv_at hl 0 rfl) ?_
                    refine lv_iadd hx hb d_MM_call_226 ?_
                    rw [show nI (3 * i) + 0 = nI (3 * i + 0) from nI_add _ 0]
                    refine g_iald (v := (iX (P.getD i i0)).1) hx hb hK.1 hP 0 (show A20 (36, 0) = some (ad 15, .inl (cI, 480, .inl (Fx 15))) from hMn.2.1 15 rfl) rfl (vp_in_nI (show 3 * i + 0 < 480 by omega) (by omega)) (by rw [(nI_clamp (show 3 * i + 0 < 2 ^ 31 by omega))]; exact (hti.2.2.1 0 (by omega)).trans (argP_0 _)) d_MM_call_227 ?_
                    refine lv_goto (tgt := 232) hx hb d_MM_call_228 (by decide) ?_
                    refine g_iast (k := 3 * (i + 1) + 0) hx hb hK.1 hP hS 0 (show A20 (36, 0) = some (ad 15, .inl (cI, 480, .inl (Fx 15))) from hMn.2.1 15 rfl) rfl (vp_in_nI (show 3 * (i + 1) + 0 < 480 by omega) (by omega)) (nI_clamp (show 3 * (i + 1) + 0 < 2 ^ 31 by omega)) d_MM_call_232 (fun H locs hP hS => ?_)
                    obtain ⟨A73, eA73⟩ : ∃ z, z = gU A20 (36, 0) (ad 15, .inl (cI, 480, .inl (upd (Fx 15) (3 * (i + 1) + 0) ((iX (P.getD i i0)).1)))) := ⟨_, rfl⟩
                    replace hP : gP D classes b A73 H := by rw [eA73]; exact hP
                    have hM74 : rMM cI cZ cL A73 h ad (va_up (nF Fx (i + 1) (vv / 8) (vv % 8) (iDp (P.getD i i0) + 1) (nI i)) 15 (upd (Fx 15) (3 * (i + 1) + 0) ((iX (P.getD i i0)).1))) G ((kBu σ).length) rs2.length (i + 1 + 1) (kMk σ) := by rw [eA73]; exact hMn.put 15 rfl _
                    have glA73 : gL A A73 := by rw [eA73]; exact glm.U (by decide)
                    refine lv_iinc (v := 1) (lv' := [(9, .int 1), (8, .int (nI (i + 1))), (7, .int (nI pz)), (6, .int (nI i)), (0, .ref h)]) hx hb d_MM_call_233 hl (k := 0) rfl (by decide) (by decide) rfl (fun ls hl => ?_)
                    refine lv_goto (tgt := 185) hx hb d_MM_call_236 (by decide) ?_
                    refine lv_iload hx hb d_MM_call_185 (lv_at hl 0 rfl) ?_
                    refine lv_iconst (v := 3) hx hb d_MM_call_187 (by decide) ?_
                    refine lv_icmp_ge (tgt := 239) hx hb d_MM_call_188 (by decide) (fun h9 => absurd h9 (by decide)) (fun _ => ?_)
                    refine lv_aload_n hx hb d_MM_call_191 rfl (lv_at hl 4 rfl) ?_
                    refine g_get hx hb hts i_MM hown hK.1 hP (show A73 (20, 0) = some (h, .inr (5, [.ref (ad 0), .ref (ad 1), .int (nI ((kBu σ).length)), .ref (ad 3), .ref (ad 4), .ref (ad 5), .ref (ad 6), .ref (ad 7), .ref (ad 8), .ref (ad 9), .ref (ad 10), .int (nI rs2.length), .ref (ad 12), .ref (ad 13), .ref (ad 14), .ref (ad 15), .ref (ad 16), .ref (ad 17), .ref (ad 18), .ref (ad 19), .ref (ad 20), .ref (ad 21), .int (nI (i + 1 + 1)), .int (nI (kMk σ) - 1)])) from hM74.1) rfl 15 (by decide) (hts _ k_458) (fun _ h9 => h9) rfl d_MM_call_192 ?_
                    refine lv_iconst (v := 3) hx hb d_MM_call_195 (by decide) ?_
                    refine lv_iload hx hb d_MM_call_196 (lv_at hl 1 rfl) ?_
                    refine lv_imul hx hb d_MM_call_198 ?_
                    rw [mul3 _]
                    refine lv_iload hx hb d_MM_call_199 (lv_at hl 0 rfl) ?_
                    refine lv_iadd hx hb d_MM_call_201 ?_
                    rw [nI_1 _]
                    refine lv_iload hx hb d_MM_call_202 (lv_at hl 0 rfl) ?_
                    refine lv_aload_n hx hb d_MM_call_204 rfl (lv_at hl 4 rfl) ?_
                    refine g_get hx hb hts i_MM hown hK.1 hP (show A73 (20, 0) = some (h, .inr (5, [.ref (ad 0), .ref (ad 1), .int (nI ((kBu σ).length)), .ref (ad 3), .ref (ad 4), .ref (ad 5), .ref (ad 6), .ref (ad 7), .ref (ad 8), .ref (ad 9), .ref (ad 10), .int (nI rs2.length), .ref (ad 12), .ref (ad 13), .ref (ad 14), .ref (ad 15), .ref (ad 16), .ref (ad 17), .ref (ad 18), .ref (ad 19), .ref (ad 20), .ref (ad 21), .int (nI (i + 1 + 1)), .int (nI (kMk σ) - 1)])) from hM74.1) rfl 14 (by decide) (hts _ k_457) (fun _ h9 => h9) rfl d_MM_call_205 ?_
                    refine lv_iload hx hb d_MM_call_208 (lv_at hl 1 rfl) ?_
                    refine g_iald (v := nI (vv % 8)) hx hb hK.1 hP 0 (show A73 (35, 0) = some (ad 14, .inl (cI, 160, .inl (upd (Fx 14) (i + 1) (nI (vv % 8))))) from hM74.2.1 14 rfl) rfl (vp_in_nI (show i + 1 < 160 by omega) (by omega)) (by rw [(nI_clamp (show i + 1 < 2 ^ 31 by omega))]; exact pk_us) d_MM_call_210 ?_
                    refine lv_iconst (v := 4) hx hb d_MM_call_211 (by decide) ?_
                    refine lv_irem hx hb d_MM_call_212 (by decide) ?_
                    rw [rem4 (show vv % 8 < 2 ^ 31 by omega)]
                    rw [e4]
                    refine lv_icmp_ge (tgt := 231) hx hb d_MM_call_213 (by decide) (fun h9 => absurd h9 (by decide)) (fun _ => ?_)
                    refine lv_aload_n hx hb d_MM_call_216 rfl (lv_at hl 4 rfl) ?_
                    refine g_get hx hb hts i_MM hown hK.1 hP (show A73 (20, 0) = some (h, .inr (5, [.ref (ad 0), .ref (ad 1), .int (nI ((kBu σ).length)), .ref (ad 3), .ref (ad 4), .ref (ad 5), .ref (ad 6), .ref (ad 7), .ref (ad 8), .ref (ad 9), .ref (ad 10), .int (nI rs2.length), .ref (ad 12), .ref (ad 13), .ref (ad 14), .ref (ad 15), .ref (ad 16), .ref (ad 17), .ref (ad 18), .ref (ad 19), .ref (ad 20), .ref (ad 21), .int (nI (i + 1 + 1)), .int (nI (kMk σ) - 1)])) from hM74.1) rfl 15 (by decide) (hts _ k_458) (fun _ h9 => h9) rfl d_MM_call_217 ?_
                    refine lv_iconst (v := 3) hx hb d_MM_call_220 (by decide) ?_
                    refine lv_iload hx hb d_MM_call_221 (lv_at hl 3 rfl) ?_
                    refine lv_imul hx hb d_MM_call_223 ?_
                    rw [mul3 _]
                    refine lv_iload hx hb d_MM_call_224 (lv_at hl 0 rfl) ?_
                    refine lv_iadd hx hb d_MM_call_226 ?_
                    rw [nI_1 _]
                    refine g_iald (v := (iX (P.getD i i0)).2.1) hx hb hK.1 hP 0 (show A73 (36, 0) = some (ad 15, .inl (cI, 480, .inl (upd (Fx 15) (3 * (i + 1) + 0) ((iX (P.getD i i0)).1)))) from hM74.2.1 15 rfl) rfl (vp_in_nI (show 3 * i + 1 < 480 by omega) (by omega)) (by rw [(nI_clamp (show 3 * i + 1 < 2 ^ 31 by omega))]; exact (by rw [pk_un (by omega)]; exact (hti.2.2.1 1 (by omega)).trans (argP_1 _))) d_MM_call_227 ?_
                    refine lv_goto (tgt := 232) hx hb d_MM_call_228 (by decide) ?_
                    refine g_iast (k := 3 * (i + 1) + 1) hx hb hK.1 hP hS 0 (show A73 (36, 0) = some (ad 15, .inl (cI, 480, .inl (upd (Fx 15) (3 * (i + 1) + 0) ((iX (P.getD i i0)).1)))) from hM74.2.1 15 rfl) rfl (vp_in_nI (show 3 * (i + 1) + 1 < 480 by omega) (by omega)) (nI_clamp (show 3 * (i + 1) + 1 < 2 ^ 31 by omega)) d_MM_call_232 (fun H locs hP hS => ?_)
                    obtain ⟨A77, eA77⟩ : ∃ z, z = gU A73 (36, 0) (ad 15, .inl (cI, 480, .inl (upd (upd (Fx 15) (3 * (i + 1) + 0) ((iX (P.getD i i0)).1)) (3 * (i + 1) + 1) ((iX (P.getD i i0)).2.1)))) := ⟨_, rfl⟩
                    replace hP : gP D classes b A77 H := by rw [eA77]; exact hP
                    have hM78 : rMM cI cZ cL A77 h ad (va_up (va_up (nF Fx (i + 1) (vv / 8) (vv % 8) (iDp (P.getD i i0) + 1) (nI i)) 15 (upd (Fx 15) (3 * (i + 1) + 0) ((iX (P.getD i i0)).1))) 15 (upd (upd (Fx 15) (3 * (i + 1) + 0) ((iX (P.getD i i0)).1)) (3 * (i + 1) + 1) ((iX (P.getD i i0)).2.1))) G ((kBu σ).length) rs2.length (i + 1 + 1) (kMk σ) := by rw [eA77]; exact hM74.put 15 rfl _
                    have glA77 : gL A A77 := by rw [eA77]; exact glA73.U (by decide)
                    refine lv_iinc (v := 2) (lv' := [(9, .int 2), (8, .int (nI (i + 1))), (7, .int (nI pz)), (6, .int (nI i)), (0, .ref h)]) hx hb d_MM_call_233 hl (k := 0) rfl (by decide) (by decide) rfl (fun ls hl => ?_)
                    refine lv_goto (tgt := 185) hx hb d_MM_call_236 (by decide) ?_
                    refine lv_iload hx hb d_MM_call_185 (lv_at hl 0 rfl) ?_
                    refine lv_iconst (v := 3) hx hb d_MM_call_187 (by decide) ?_
                    refine lv_icmp_ge (tgt := 239) hx hb d_MM_call_188 (by decide) (fun h9 => absurd h9 (by decide)) (fun _ => ?_)
                    refine lv_aload_n hx hb d_MM_call_191 rfl (lv_at hl 4 rfl) ?_
                    refine g_get hx hb hts i_MM hown hK.1 hP (show A77 (20, 0) = some (h, .inr (5, [.ref (ad 0), .ref (ad 1), .int (nI ((kBu σ).length)), .ref (ad 3), .ref (ad 4), .ref (ad 5), .ref (ad 6), .ref (ad 7), .ref (ad 8), .ref (ad 9), .ref (ad 10), .int (nI rs2.length), .ref (ad 12), .ref (ad 13), .ref (ad 14), .ref (ad 15), .ref (ad 16), .ref (ad 17), .ref (ad 18), .ref (ad 19), .ref (ad 20), .ref (ad 21), .int (nI (i + 1 + 1)), .int (nI (kMk σ) - 1)])) from hM78.1) rfl 15 (by decide) (hts _ k_458) (fun _ h9 => h9) rfl d_MM_call_192 ?_
                    refine lv_iconst (v := 3) hx hb d_MM_call_195 (by decide) ?_
                    refine lv_iload hx hb d_MM_call_196 (lv_at hl 1 rfl) ?_
                    refine lv_imul hx hb d_MM_call_198 ?_
                    rw [mul3 _]
                    refine lv_iload hx hb d_MM_call_199 (lv_at hl 0 rfl) ?_
                    refine lv_iadd hx hb d_MM_call_201 ?_
                    rw [add2' _]
                    refine lv_iload hx hb d_MM_call_202 (lv_at hl 0 rfl) ?_
                    refine lv_aload_n hx hb d_MM_call_204 rfl (lv_at hl 4 rfl) ?_
                    refine g_get hx hb hts i_MM hown hK.1 hP (show A77 (20, 0) = some (h, .inr (5, [.ref (ad 0), .ref (ad 1), .int (nI ((kBu σ).length)), .ref (ad 3), .ref (ad 4), .ref (ad 5), .ref (ad 6), .ref (ad 7), .ref (ad 8), .ref (ad 9), .ref (ad 10), .int (nI rs2.length), .ref (ad 12), .ref (ad 13), .ref (ad 14), .ref (ad 15), .ref (ad 16), .ref (ad 17), .ref (ad 18), .ref (ad 19), .ref (ad 20), .ref (ad 21), .int (nI (i + 1 + 1)), .int (nI (kMk σ) - 1)])) from hM78.1) rfl 14 (by decide) (hts _ k_457) (fun _ h9 => h9) rfl d_MM_call_205 ?_
                    refine lv_iload hx hb d_MM_call_208 (lv_at hl 1 rfl) ?_
                    refine g_iald (v := nI (vv % 8)) hx hb hK.1 hP 0 (show A77 (35, 0) = some (ad 14, .inl (cI, 160, .inl (upd (Fx 14) (i + 1) (nI (vv % 8))))) from hM78.2.1 14 rfl) rfl (vp_in_nI (show i + 1 < 160 by omega) (by omega)) (by rw [(nI_clamp (show i + 1 < 2 ^ 31 by omega))]; exact pk_us) d_MM_call_210 ?_
                    refine lv_iconst (v := 4) hx hb d_MM_call_211 (by decide) ?_
                    refine lv_irem hx hb d_MM_call_212 (by decide) ?_
                    rw [rem4 (show vv % 8 < 2 ^ 31 by omega)]
                    rw [e4]
                    refine lv_icmp_ge (tgt := 231) hx hb d_MM_call_213 (by decide) (fun h9 => absurd h9 (by decide)) (fun _ => ?_)
                    refine lv_aload_n hx hb d_MM_call_216 rfl (lv_at hl 4 rfl) ?_
                    refine g_get hx hb hts i_MM hown hK.1 hP (show A77 (20, 0) = some (h, .inr (5, [.ref (ad 0), .ref (ad 1), .int (nI ((kBu σ).length)), .ref (ad 3), .ref (ad 4), .ref (ad 5), .ref (ad 6), .ref (ad 7), .ref (ad 8), .ref (ad 9), .ref (ad 10), .int (nI rs2.length), .ref (ad 12), .ref (ad 13), .ref (ad 14), .ref (ad 15), .ref (ad 16), .ref (ad 17), .ref (ad 18), .ref (ad 19), .ref (ad 20), .ref (ad 21), .int (nI (i + 1 + 1)), .int (nI (kMk σ) - 1)])) from hM78.1) rfl 15 (by decide) (hts _ k_458) (fun _ h9 => h9) rfl d_MM_call_217 ?_
                    refine lv_iconst (v := 3) hx hb d_MM_call_220 (by decide) ?_
                    refine lv_iload hx hb d_MM_call_221 (lv_at hl 3 rfl) ?_
                    refine lv_imul hx hb d_MM_call_223 ?_
                    rw [mul3 _]
                    refine lv_iload hx hb d_MM_call_224 (lv_at hl 0 rfl) ?_
                    refine lv_iadd hx hb d_MM_call_226 ?_
                    rw [add2' _]
                    refine g_iald (v := (iX (P.getD i i0)).2.2) hx hb hK.1 hP 0 (show A77 (36, 0) = some (ad 15, .inl (cI, 480, .inl (upd (upd (Fx 15) (3 * (i + 1) + 0) ((iX (P.getD i i0)).1)) (3 * (i + 1) + 1) ((iX (P.getD i i0)).2.1)))) from hM78.2.1 15 rfl) rfl (vp_in_nI (show 3 * i + 2 < 480 by omega) (by omega)) (by rw [(nI_clamp (show 3 * i + 2 < 2 ^ 31 by omega))]; exact (by rw [pk_un (by omega), pk_un (by omega)]; exact (hti.2.2.1 2 (by omega)).trans (argP_2 _))) d_MM_call_227 ?_
                    refine lv_goto (tgt := 232) hx hb d_MM_call_228 (by decide) ?_
                    refine g_iast (k := 3 * (i + 1) + 2) hx hb hK.1 hP hS 0 (show A77 (36, 0) = some (ad 15, .inl (cI, 480, .inl (upd (upd (Fx 15) (3 * (i + 1) + 0) ((iX (P.getD i i0)).1)) (3 * (i + 1) + 1) ((iX (P.getD i i0)).2.1)))) from hM78.2.1 15 rfl) rfl (vp_in_nI (show 3 * (i + 1) + 2 < 480 by omega) (by omega)) (nI_clamp (show 3 * (i + 1) + 2 < 2 ^ 31 by omega)) d_MM_call_232 (fun H locs hP hS => ?_)
                    obtain ⟨A81, eA81⟩ : ∃ z, z = gU A77 (36, 0) (ad 15, .inl (cI, 480, .inl (upd (upd (upd (Fx 15) (3 * (i + 1) + 0) ((iX (P.getD i i0)).1)) (3 * (i + 1) + 1) ((iX (P.getD i i0)).2.1)) (3 * (i + 1) + 2) ((iX (P.getD i i0)).2.2)))) := ⟨_, rfl⟩
                    replace hP : gP D classes b A81 H := by rw [eA81]; exact hP
                    have hM82 : rMM cI cZ cL A81 h ad (va_up (va_up (va_up (nF Fx (i + 1) (vv / 8) (vv % 8) (iDp (P.getD i i0) + 1) (nI i)) 15 (upd (Fx 15) (3 * (i + 1) + 0) ((iX (P.getD i i0)).1))) 15 (upd (upd (Fx 15) (3 * (i + 1) + 0) ((iX (P.getD i i0)).1)) (3 * (i + 1) + 1) ((iX (P.getD i i0)).2.1))) 15 (upd (upd (upd (Fx 15) (3 * (i + 1) + 0) ((iX (P.getD i i0)).1)) (3 * (i + 1) + 1) ((iX (P.getD i i0)).2.1)) (3 * (i + 1) + 2) ((iX (P.getD i i0)).2.2))) G ((kBu σ).length) rs2.length (i + 1 + 1) (kMk σ) := by rw [eA81]; exact hM78.put 15 rfl _
                    have glA81 : gL A A81 := by rw [eA81]; exact glA77.U (by decide)
                    refine lv_iinc (v := 3) (lv' := [(9, .int 3), (8, .int (nI (i + 1))), (7, .int (nI pz)), (6, .int (nI i)), (0, .ref h)]) hx hb d_MM_call_233 hl (k := 0) rfl (by decide) (by decide) rfl (fun ls hl => ?_)
                    refine lv_goto (tgt := 185) hx hb d_MM_call_236 (by decide) ?_
                    refine lv_iload hx hb d_MM_call_185 (lv_at hl 0 rfl) ?_
                    refine lv_iconst (v := 3) hx hb d_MM_call_187 (by decide) ?_
                    refine lv_icmp_ge (tgt := 239) hx hb d_MM_call_188 (by decide) (fun _ => ?_) (fun h9 => absurd (by decide) h9)
                    refine lv_iload hx hb d_MM_call_239 (lv_at hl 1 rfl) ?_
                    refine lv_istore (lv' := [(6, .int (nI (i + 1))), (9, .int 3), (8, .int (nI (i + 1))), (7, .int (nI pz)), (0, .ref h)]) hx hb d_MM_call_241 hl (by decide) rfl (fun ls hl => ?_)
                    have hx3 := hx2.trans (cut_3 _ e4)
                    have hMa : rMM cI cZ cL A81 h ad (aF (nF Fx (i + 1) (vv / 8) (vv % 8) (iDp (P.getD i i0) + 1) (nI i)) (i + 1) x2) G ((kBu σ).length) rs2.length (i + 1 + 1) (kMk σ) := by rw [hx3]; exact hM82
                    refine lv_aload_n hx hb d_MM_call_243 rfl (lv_at hl 4 rfl) ?_
                    refine lv_iload hx hb d_MM_call_244 (lv_at hl 0 rfl) ?_
                    refine g_ci (B := fun A2 H => gP D classes b A2 H) (g_runV (As := [.int (nI (i + 1))]) (rest := []) ⟨hx, hb, hml, hown, hts⟩ (c_MM_action l hMa (rs := rs2) hR2.2.1 hU3.2.2.1 hU3.1 (i := i + 1) (by omega) (a := fun k => iRu (P.getD k i0)) (ruLeU hU3) (fun k hk => (pk_un (Nat.ne_of_lt hk)).trans (hR2.2.2.2.2.1 k (show k < (P).length by omega)).2.2.2.2.2.1) hU3.2.2.2.2 (mk := vv / 8) (mt := vv % 8) (x := x2) (by omega) pk_us (fun j hj => aF_15 _ _ _ j hj) (by omega) pk_us pk_us) st_MM_action k_549 ⟨rfl, rfl, by decide, by decide⟩ rfl (gI.preV hK hS hP (show A81 (20, 0) = some (h, .inr (5, [.ref (ad 0), .ref (ad 1), .int (nI ((kBu σ).length)), .ref (ad 3), .ref (ad 4), .ref (ad 5), .ref (ad 6), .ref (ad 7), .ref (ad 8), .ref (ad 9), .ref (ad 10), .int (nI rs2.length), .ref (ad 12), .ref (ad 13), .ref (ad 14), .ref (ad 15), .ref (ad 16), .ref (ad 17), .ref (ad 18), .ref (ad 19), .ref (ad 20), .ref (ad 21), .int (nI (i + 1 + 1)), .int (nI (kMk σ) - 1)])) from hM82.1) rfl _) rfl hl.1 rfl (Nat.le_of_ble_eq_true rfl) d_MM_call_246 ⟨by decide, by decide⟩) hS (fun r86 A84 H locs hp85 hP hS => ?_)
                    replace hP : gP D classes b A84 H := hP
                    refine W.widen (k := 0) (n := 0) (by decide) (by decide) ?_
                    obtain ⟨hz2, hMc, glc⟩ := hp85
                    rw [hz2, ← hr2]
                    have gld := gL.trans glA81 glc
                    refine lv_istore (lv' := [(7, .int (actN rs2 r2)), (6, .int (nI (i + 1))), (9, .int 3), (8, .int (nI (i + 1))), (0, .ref h)]) hx hb d_MM_call_249 hl (by decide) rfl (fun ls hl => ?_)
                    refine lv_goto (tgt := 108) hx hb d_MM_call_251 (by decide) ?_
                    have hMd : rMM cI cZ cL A84 h ad (sF Fx (i + 1) (vv / 8) (vv % 8) (iDp (P.getD i i0) + 1) (nI i) x2 r2) G (kBu σ).length rs2.length (P ++ [t2]).length (kMk σ) := by rw [lenS, ← hi, hr2]; exact hMc
                    have hRd : mRep (sF Fx (i + 1) (vv / 8) (vv % 8) (iDp (P.getD i i0) + 1) (nI i) x2 r2) G (rs2, (P ++ [t2]), kSt σ, kBu σ, kMk σ) (kIs σ).length := by rw [ht2]; exact hR2.step (ans := ans) hi.symm (by omega) (by omega)
                    have hUd : wfU rs2 (P ++ [t2]) (i + 1) := by
                      rw [hi]
                      refine wfU.snoc hUu (by omega) ?_ ?_
                      · rw [ht2]; exact ⟨by show vv / 8 < 4; omega, by show vv % 8 < 8; omega⟩
                      · rw [ht2]; show r2 ≤ _; rw [hr2]; exact ruFor_le _ _ _ _
                    exact ih rs2 (P ++ [t2]) _ (i + 1) _ _ _ _ _ (by rw [lenS]; omega) (by omega) hUd (fun d hd => by
                      rw [lenS] at hd
                      by_cases e : (kIs σ).length + d = P.length
                      · rw [e, getD_r, ht2]
                        show nI i = kv (kIs σ).length d
                        obtain ⟨d2, rfl⟩ : ∃ z, d = z + 1 := ⟨d - 1, by omega⟩
                        rw [kv_p]; congr 1; omega
                      · rw [getD_l (by omega)]; exact hch d (by omega)) (fun k h1 h2 => by
                      rw [lenS] at h2
                      by_cases e : k = P.length
                      · rw [e, getD_r, ht2]
                      · rw [getD_l (by omega)]; exact han k h1 (by omega)) (by rw [hlst, ht2]; show iDp (P.getD i i0) + 1 + f = 3; omega) (by rw [hlst, ht2]; exact Prod.ext e1 (Prod.ext rfl e3)) (by rw [← hPfM, ← e2, e3, ht2]; simp) hRd hP hS hMd gld (by rw [hlst, ht2]; exact lv_sub hl [0, 1, 4] rfl)
      have hN0 : (kIs σ).length = (kIs σ).length := rfl
      obtain ⟨x2, hx2⟩ : ∃ z : X3, z = cut mt (xa, xb, xc) := ⟨_, rfl⟩
      have hresp : (calS (kSt σ) 4 (kRs σ) (kIs σ).length mk mt (xa, xb, xc) 0 (-1)) = (Rf, (calS (kSt σ) 4 (kRs σ) (kIs σ).length mk mt (xa, xb, xc) 0 (-1)).2.1, ans) := Prod.ext hRf0.symm (Prod.ext rfl hans0.symm)
      rw [calS_s (show (kIs σ).length < 160 by omega), ← hx2, Prod.mk.injEq, Prod.mk.injEq] at hresp
      obtain ⟨e1, e2, e3⟩ := hresp
      rw [calS_s (show (kIs σ).length < 160 by omega), ← hx2] at hPf0
      obtain ⟨r2, hr2⟩ : ∃ z : Nat, z = ruFor (kRs σ) (mk) (mt) x2 := ⟨_, rfl⟩
      rw [← hr2] at e1 e2 e3
      obtain ⟨t2, ht2⟩ : ∃ z : It, z = (mk, mt, x2, 0, -1, r2, ans, false, true) := ⟨_, rfl⟩
      have hlst : ((kIs σ) ++ [t2]).getD ((kIs σ).length) i0 = t2 := by rw [← hN0]; exact getD_r
      rw [← hr2] at hPf0
      refine lv_aload_n hx hb d_MM_call_22 rfl (lv_at hl 0 rfl) ?_
      refine lv_iload_n hx hb d_MM_call_23 rfl (lv_at hl 1 rfl) ?_
      refine lv_iload_n hx hb d_MM_call_24 rfl (lv_at hl 2 rfl) ?_
      refine lv_iconst (v := 0) hx hb d_MM_call_25 (by decide) ?_
      refine lv_iconst (v := (-1)) hx hb d_MM_call_26 (by decide) ?_
      refine g_ci (B := fun A2 H => gP D classes b A2 H) (g_runV (As := [.int (nI mk), .int (nI mt), .int 0, .int (-1)]) (rest := []) ⟨hx, hb, hml, hown, hts⟩ (c_MM_note l hM (by omega) mk mt 0 (-1)) st_MM_note k_545 ⟨rfl, rfl, by decide, by decide⟩ rfl (gI.preV hK hS hP (show A (20, 0) = some (h, .inr (5, [.ref (ad 0), .ref (ad 1), .int (nI ((kBu σ).length)), .ref (ad 3), .ref (ad 4), .ref (ad 5), .ref (ad 6), .ref (ad 7), .ref (ad 8), .ref (ad 9), .ref (ad 10), .int (nI ((kRs σ).length)), .ref (ad 12), .ref (ad 13), .ref (ad 14), .ref (ad 15), .ref (ad 16), .ref (ad 17), .ref (ad 18), .ref (ad 19), .ref (ad 20), .ref (ad 21), .int (nI ((kIs σ).length)), .int (nI (kMk σ) - 1)])) from hM.1) rfl _) rfl hl.1 rfl (Nat.le_of_ble_eq_true rfl) d_MM_call_27 ⟨by decide, by decide⟩) hS (fun r89 A87 H locs hp88 hP hS => ?_)
      replace hP : gP D classes b A87 H := hP
      refine W.widen (k := 0) (n := 0) (by decide) (by decide) ?_
      obtain ⟨hz, hMn, gln⟩ := hp88
      rw [hz]
      have glm := gL.trans gL.rf gln
      refine lv_istore (lv' := [(6, .int (nI ((kIs σ).length))), (0, .ref h), (1, .int (nI mk)), (2, .int (nI mt)), (3, .int xa), (4, .int xb), (5, .int xc)]) hx hb d_MM_call_30 hl (by decide) rfl (fun ls hl => ?_)
      rcases (by omega : mt % 4 = 0 ∨ mt % 4 = 1 ∨ mt % 4 = 2 ∨ mt % 4 = 3) with e4 | e4 | e4 | e4
      · skip
        refine lv_aload_n hx hb d_MM_call_32 rfl (lv_at hl 1 rfl) ?_
        refine g_get hx hb hts i_MM hown hK.1 hP (show A87 (20, 0) = some (h, .inr (5, [.ref (ad 0), .ref (ad 1), .int (nI ((kBu σ).length)), .ref (ad 3), .ref (ad 4), .ref (ad 5), .ref (ad 6), .ref (ad 7), .ref (ad 8), .ref (ad 9), .ref (ad 10), .int (nI ((kRs σ).length)), .ref (ad 12), .ref (ad 13), .ref (ad 14), .ref (ad 15), .ref (ad 16), .ref (ad 17), .ref (ad 18), .ref (ad 19), .ref (ad 20), .ref (ad 21), .int (nI ((kIs σ).length + 1)), .int (nI (kMk σ) - 1)])) from hMn.1) rfl 15 (by decide) (hts _ k_458) (fun _ h9 => h9) rfl d_MM_call_33 ?_
        refine lv_iconst (v := 3) hx hb d_MM_call_36 (by decide) ?_
        refine lv_iload hx hb d_MM_call_37 (lv_at hl 0 rfl) ?_
        refine lv_imul hx hb d_MM_call_39 ?_
        rw [mul3 _]
        refine lv_iload_n hx hb d_MM_call_40 rfl (lv_at hl 3 rfl) ?_
        refine lv_iconst (v := 4) hx hb d_MM_call_41 (by decide) ?_
        refine lv_irem hx hb d_MM_call_42 (by decide) ?_
        rw [rem4 (show mt < 2 ^ 31 by omega)]
        rw [e4]
        refine lv_if_le (tgt := 50) hx hb d_MM_call_43 (by decide) (fun _ => ?_) (fun h9 => absurd (by decide) h9)
        refine lv_iconst (v := 0) hx hb d_MM_call_50 (by decide) ?_
        refine g_iast (k := 3 * ((kIs σ).length)) hx hb hK.1 hP hS 0 (show A87 (36, 0) = some (ad 15, .inl (cI, 480, .inl (F 15))) from hMn.2.1 15 rfl) rfl (vp_in_nI (show 3 * ((kIs σ).length) < 480 by omega) (by omega)) (nI_clamp (show 3 * ((kIs σ).length) < 2 ^ 31 by omega)) d_MM_call_51 (fun H locs hP hS => ?_)
        obtain ⟨A91, eA91⟩ : ∃ z, z = gU A87 (36, 0) (ad 15, .inl (cI, 480, .inl (upd (F 15) (3 * ((kIs σ).length)) (0)))) := ⟨_, rfl⟩
        replace hP : gP D classes b A91 H := by rw [eA91]; exact hP
        have hM92 : rMM cI cZ cL A91 h ad (va_up (nF F ((kIs σ).length) mk mt 0 (-1)) 15 (upd (F 15) (3 * ((kIs σ).length)) (0))) G ((kBu σ).length) ((kRs σ).length) ((kIs σ).length + 1) (kMk σ) := by rw [eA91]; exact hMn.put 15 rfl _
        have glA91 : gL A A91 := by rw [eA91]; exact glm.U (by decide)
        refine lv_aload_n hx hb d_MM_call_52 rfl (lv_at hl 1 rfl) ?_
        refine g_get hx hb hts i_MM hown hK.1 hP (show A91 (20, 0) = some (h, .inr (5, [.ref (ad 0), .ref (ad 1), .int (nI ((kBu σ).length)), .ref (ad 3), .ref (ad 4), .ref (ad 5), .ref (ad 6), .ref (ad 7), .ref (ad 8), .ref (ad 9), .ref (ad 10), .int (nI ((kRs σ).length)), .ref (ad 12), .ref (ad 13), .ref (ad 14), .ref (ad 15), .ref (ad 16), .ref (ad 17), .ref (ad 18), .ref (ad 19), .ref (ad 20), .ref (ad 21), .int (nI ((kIs σ).length + 1)), .int (nI (kMk σ) - 1)])) from hM92.1) rfl 15 (by decide) (hts _ k_458) (fun _ h9 => h9) rfl d_MM_call_53 ?_
        refine lv_iconst (v := 3) hx hb d_MM_call_56 (by decide) ?_
        refine lv_iload hx hb d_MM_call_57 (lv_at hl 0 rfl) ?_
        refine lv_imul hx hb d_MM_call_59 ?_
        rw [mul3 _]
        refine lv_iconst (v := 1) hx hb d_MM_call_60 (by decide) ?_
        refine lv_iadd hx hb d_MM_call_61 ?_
        rw [nI_1 _]
        refine lv_iload_n hx hb d_MM_call_62 rfl (lv_at hl 3 rfl) ?_
        refine lv_iconst (v := 4) hx hb d_MM_call_63 (by decide) ?_
        refine lv_irem hx hb d_MM_call_64 (by decide) ?_
        rw [rem4 (show mt < 2 ^ 31 by omega)]
        rw [e4]
        refine lv_iconst (v := 1) hx hb d_MM_call_65 (by decide) ?_
        refine lv_icmp_le (tgt := 74) hx hb d_MM_call_66 (by decide) (fun _ => ?_) (fun h9 => absurd (by decide) h9)
        refine lv_iconst (v := 0) hx hb d_MM_call_74 (by decide) ?_
        refine g_iast (k := 3 * ((kIs σ).length) + 1) hx hb hK.1 hP hS 0 (show A91 (36, 0) = some (ad 15, .inl (cI, 480, .inl (upd (F 15) (3 * ((kIs σ).length)) (0)))) from hM92.2.1 15 rfl) rfl (vp_in_nI (show 3 * ((kIs σ).length) + 1 < 480 by omega) (by omega)) (nI_clamp (show 3 * ((kIs σ).length) + 1 < 2 ^ 31 by omega)) d_MM_call_75 (fun H locs hP hS => ?_)
        obtain ⟨A94, eA94⟩ : ∃ z, z = gU A91 (36, 0) (ad 15, .inl (cI, 480, .inl (upd (upd (F 15) (3 * ((kIs σ).length)) (0)) (3 * ((kIs σ).length) + 1) (0)))) := ⟨_, rfl⟩
        replace hP : gP D classes b A94 H := by rw [eA94]; exact hP
        have hM95 : rMM cI cZ cL A94 h ad (va_up (va_up (nF F ((kIs σ).length) mk mt 0 (-1)) 15 (upd (F 15) (3 * ((kIs σ).length)) (0))) 15 (upd (upd (F 15) (3 * ((kIs σ).length)) (0)) (3 * ((kIs σ).length) + 1) (0))) G ((kBu σ).length) ((kRs σ).length) ((kIs σ).length + 1) (kMk σ) := by rw [eA94]; exact hM92.put 15 rfl _
        have glA94 : gL A A94 := by rw [eA94]; exact glA91.U (by decide)
        refine lv_aload_n hx hb d_MM_call_76 rfl (lv_at hl 1 rfl) ?_
        refine g_get hx hb hts i_MM hown hK.1 hP (show A94 (20, 0) = some (h, .inr (5, [.ref (ad 0), .ref (ad 1), .int (nI ((kBu σ).length)), .ref (ad 3), .ref (ad 4), .ref (ad 5), .ref (ad 6), .ref (ad 7), .ref (ad 8), .ref (ad 9), .ref (ad 10), .int (nI ((kRs σ).length)), .ref (ad 12), .ref (ad 13), .ref (ad 14), .ref (ad 15), .ref (ad 16), .ref (ad 17), .ref (ad 18), .ref (ad 19), .ref (ad 20), .ref (ad 21), .int (nI ((kIs σ).length + 1)), .int (nI (kMk σ) - 1)])) from hM95.1) rfl 15 (by decide) (hts _ k_458) (fun _ h9 => h9) rfl d_MM_call_77 ?_
        refine lv_iconst (v := 3) hx hb d_MM_call_80 (by decide) ?_
        refine lv_iload hx hb d_MM_call_81 (lv_at hl 0 rfl) ?_
        refine lv_imul hx hb d_MM_call_83 ?_
        rw [mul3 _]
        refine lv_iconst (v := 2) hx hb d_MM_call_84 (by decide) ?_
        refine lv_iadd hx hb d_MM_call_85 ?_
        rw [add2' _]
        refine lv_iload_n hx hb d_MM_call_86 rfl (lv_at hl 3 rfl) ?_
        refine lv_iconst (v := 4) hx hb d_MM_call_87 (by decide) ?_
        refine lv_irem hx hb d_MM_call_88 (by decide) ?_
        rw [rem4 (show mt < 2 ^ 31 by omega)]
        rw [e4]
        refine lv_iconst (v := 2) hx hb d_MM_call_89 (by decide) ?_
        refine lv_icmp_le (tgt := 98) hx hb d_MM_call_90 (by decide) (fun _ => ?_) (fun h9 => absurd (by decide) h9)
        refine lv_iconst (v := 0) hx hb d_MM_call_98 (by decide) ?_
        refine g_iast (k := 3 * ((kIs σ).length) + 2) hx hb hK.1 hP hS 0 (show A94 (36, 0) = some (ad 15, .inl (cI, 480, .inl (upd (upd (F 15) (3 * ((kIs σ).length)) (0)) (3 * ((kIs σ).length) + 1) (0)))) from hM95.2.1 15 rfl) rfl (vp_in_nI (show 3 * ((kIs σ).length) + 2 < 480 by omega) (by omega)) (nI_clamp (show 3 * ((kIs σ).length) + 2 < 2 ^ 31 by omega)) d_MM_call_99 (fun H locs hP hS => ?_)
        obtain ⟨A97, eA97⟩ : ∃ z, z = gU A94 (36, 0) (ad 15, .inl (cI, 480, .inl (upd (upd (upd (F 15) (3 * ((kIs σ).length)) (0)) (3 * ((kIs σ).length) + 1) (0)) (3 * ((kIs σ).length) + 2) (0)))) := ⟨_, rfl⟩
        replace hP : gP D classes b A97 H := by rw [eA97]; exact hP
        have hM98 : rMM cI cZ cL A97 h ad (va_up (va_up (va_up (nF F ((kIs σ).length) mk mt 0 (-1)) 15 (upd (F 15) (3 * ((kIs σ).length)) (0))) 15 (upd (upd (F 15) (3 * ((kIs σ).length)) (0)) (3 * ((kIs σ).length) + 1) (0))) 15 (upd (upd (upd (F 15) (3 * ((kIs σ).length)) (0)) (3 * ((kIs σ).length) + 1) (0)) (3 * ((kIs σ).length) + 2) (0))) G ((kBu σ).length) ((kRs σ).length) ((kIs σ).length + 1) (kMk σ) := by rw [eA97]; exact hM95.put 15 rfl _
        have glA97 : gL A A97 := by rw [eA97]; exact glA94.U (by decide)
        have hx3 := hx2.trans (cut_0 _ e4)
        have hMa : rMM cI cZ cL A97 h ad (aF (nF F ((kIs σ).length) mk mt 0 (-1)) ((kIs σ).length) x2) G ((kBu σ).length) ((kRs σ).length) ((kIs σ).length + 1) (kMk σ) := by rw [hx3]; exact hM98
        refine lv_aload_n hx hb d_MM_call_100 rfl (lv_at hl 1 rfl) ?_
        refine lv_iload hx hb d_MM_call_101 (lv_at hl 0 rfl) ?_
        refine g_ci (B := fun A2 H => gP D classes b A2 H) (g_runV (As := [.int (nI ((kIs σ).length))]) (rest := []) ⟨hx, hb, hml, hown, hts⟩ (c_MM_action l hMa (rs := (kRs σ)) hR.2.1 hw.U.2.2.1 hw.U.1 (i := (kIs σ).length) (by omega) (a := fun k => iRu (((kIs σ)).getD k i0)) (ruLeU hw.U) (fun k hk => (pk_un (Nat.ne_of_lt hk)).trans (hR.2.2.2.2.1 k (show k < ((kIs σ)).length by omega)).2.2.2.2.2.1) hw.U.2.2.2.2 (mk := mk) (mt := mt) (x := x2) (by omega) pk_us (fun j hj => aF_15 _ _ _ j hj) (by omega) pk_us pk_us) st_MM_action k_549 ⟨rfl, rfl, by decide, by decide⟩ rfl (gI.preV hK hS hP (show A97 (20, 0) = some (h, .inr (5, [.ref (ad 0), .ref (ad 1), .int (nI ((kBu σ).length)), .ref (ad 3), .ref (ad 4), .ref (ad 5), .ref (ad 6), .ref (ad 7), .ref (ad 8), .ref (ad 9), .ref (ad 10), .int (nI ((kRs σ).length)), .ref (ad 12), .ref (ad 13), .ref (ad 14), .ref (ad 15), .ref (ad 16), .ref (ad 17), .ref (ad 18), .ref (ad 19), .ref (ad 20), .ref (ad 21), .int (nI ((kIs σ).length + 1)), .int (nI (kMk σ) - 1)])) from hM98.1) rfl _) rfl hl.1 rfl (Nat.le_of_ble_eq_true rfl) d_MM_call_103 ⟨by decide, by decide⟩) hS (fun r101 A99 H locs hp100 hP hS => ?_)
        replace hP : gP D classes b A99 H := hP
        refine W.widen (k := 0) (n := 0) (by decide) (by decide) ?_
        obtain ⟨hz2, hMc, glc⟩ := hp100
        rw [hz2, ← hr2]
        have gld := gL.trans glA97 glc
        refine lv_istore (lv' := [(7, .int (actN (kRs σ) r2)), (6, .int (nI ((kIs σ).length))), (0, .ref h), (1, .int (nI mk)), (2, .int (nI mt)), (3, .int xa), (4, .int xb), (5, .int xc)]) hx hb d_MM_call_106 hl (by decide) rfl (fun ls hl => ?_)
        have hMd : rMM cI cZ cL A99 h ad (sF F ((kIs σ).length) (mk) (mt) (0) (-1) x2 r2) G (kBu σ).length (kRs σ).length ((kIs σ) ++ [t2]).length (kMk σ) := by rw [lenS, hr2]; exact hMc
        have hRd : mRep (sF F ((kIs σ).length) (mk) (mt) (0) (-1) x2 r2) G ((kRs σ), ((kIs σ) ++ [t2]), kSt σ, kBu σ, kMk σ) (kIs σ).length := by rw [ht2]; exact hR.step (ans := ans) rfl (by omega) (by omega)
        have hUd : wfU (kRs σ) ((kIs σ) ++ [t2]) ((kIs σ).length) := by
          skip
          refine wfU.snoc hw.U (by omega) ?_ ?_
          · rw [ht2]; exact ⟨by show mk < 4; omega, by show mt < 8; omega⟩
          · rw [ht2]; show r2 ≤ _; rw [hr2]; exact ruFor_le _ _ _ _
        exact hloop 3 (kRs σ) ((kIs σ) ++ [t2]) _ ((kIs σ).length) _ _ _ _ _ (by rw [lenS]) (by omega) hUd (fun d hd => by
          rw [lenS] at hd
          by_cases e : (kIs σ).length + d = (kIs σ).length
          · rw [e, getD_r, ht2]
            show (-1) = kv (kIs σ).length d
            rw [show d = 0 by omega]; rfl
          · rw [getD_l (by omega)]; exact absurd hd (by omega)) (fun k h1 h2 => by
          rw [lenS] at h2
          by_cases e : k = (kIs σ).length
          · rw [e, getD_r, ht2]
          · rw [getD_l (by omega)]; exact absurd h2 (by omega)) (by rw [hlst, ht2]) (by rw [hlst, ht2]; exact Prod.ext e1 (Prod.ext rfl e3)) (by rw [hPf0, ← e2, e3, ht2]; simp) hRd hP hS hMd gld (by rw [hlst, ht2]; exact lv_sub hl [0, 1, 2] rfl)
      · skip
        refine lv_aload_n hx hb d_MM_call_32 rfl (lv_at hl 1 rfl) ?_
        refine g_get hx hb hts i_MM hown hK.1 hP (show A87 (20, 0) = some (h, .inr (5, [.ref (ad 0), .ref (ad 1), .int (nI ((kBu σ).length)), .ref (ad 3), .ref (ad 4), .ref (ad 5), .ref (ad 6), .ref (ad 7), .ref (ad 8), .ref (ad 9), .ref (ad 10), .int (nI ((kRs σ).length)), .ref (ad 12), .ref (ad 13), .ref (ad 14), .ref (ad 15), .ref (ad 16), .ref (ad 17), .ref (ad 18), .ref (ad 19), .ref (ad 20), .ref (ad 21), .int (nI ((kIs σ).length + 1)), .int (nI (kMk σ) - 1)])) from hMn.1) rfl 15 (by decide) (hts _ k_458) (fun _ h9 => h9) rfl d_MM_call_33 ?_
        refine lv_iconst (v := 3) hx hb d_MM_call_36 (by decide) ?_
        refine lv_iload hx hb d_MM_call_37 (lv_at hl 0 rfl) ?_
        refine lv_imul hx hb d_MM_call_39 ?_
        rw [mul3 _]
        refine lv_iload_n hx hb d_MM_call_40 rfl (lv_at hl 3 rfl) ?_
        refine lv_iconst (v := 4) hx hb d_MM_call_41 (by decide) ?_
        refine lv_irem hx hb d_MM_call_42 (by decide) ?_
        rw [rem4 (show mt < 2 ^ 31 by omega)]
        rw [e4]
        refine lv_if_le (tgt := 50) hx hb d_MM_call_43 (by decide) (fun h9 => absurd h9 (by decide)) (fun _ => ?_)
        refine lv_iload_n hx hb d_MM_call_46 rfl (lv_at hl 4 rfl) ?_
        refine lv_goto (tgt := 51) hx hb d_MM_call_47 (by decide) ?_
        refine g_iast (k := 3 * ((kIs σ).length)) hx hb hK.1 hP hS 0 (show A87 (36, 0) = some (ad 15, .inl (cI, 480, .inl (F 15))) from hMn.2.1 15 rfl) rfl (vp_in_nI (show 3 * ((kIs σ).length) < 480 by omega) (by omega)) (nI_clamp (show 3 * ((kIs σ).length) < 2 ^ 31 by omega)) d_MM_call_51 (fun H locs hP hS => ?_)
        obtain ⟨A103, eA103⟩ : ∃ z, z = gU A87 (36, 0) (ad 15, .inl (cI, 480, .inl (upd (F 15) (3 * ((kIs σ).length)) (xa)))) := ⟨_, rfl⟩
        replace hP : gP D classes b A103 H := by rw [eA103]; exact hP
        have hM104 : rMM cI cZ cL A103 h ad (va_up (nF F ((kIs σ).length) mk mt 0 (-1)) 15 (upd (F 15) (3 * ((kIs σ).length)) (xa))) G ((kBu σ).length) ((kRs σ).length) ((kIs σ).length + 1) (kMk σ) := by rw [eA103]; exact hMn.put 15 rfl _
        have glA103 : gL A A103 := by rw [eA103]; exact glm.U (by decide)
        refine lv_aload_n hx hb d_MM_call_52 rfl (lv_at hl 1 rfl) ?_
        refine g_get hx hb hts i_MM hown hK.1 hP (show A103 (20, 0) = some (h, .inr (5, [.ref (ad 0), .ref (ad 1), .int (nI ((kBu σ).length)), .ref (ad 3), .ref (ad 4), .ref (ad 5), .ref (ad 6), .ref (ad 7), .ref (ad 8), .ref (ad 9), .ref (ad 10), .int (nI ((kRs σ).length)), .ref (ad 12), .ref (ad 13), .ref (ad 14), .ref (ad 15), .ref (ad 16), .ref (ad 17), .ref (ad 18), .ref (ad 19), .ref (ad 20), .ref (ad 21), .int (nI ((kIs σ).length + 1)), .int (nI (kMk σ) - 1)])) from hM104.1) rfl 15 (by decide) (hts _ k_458) (fun _ h9 => h9) rfl d_MM_call_53 ?_
        refine lv_iconst (v := 3) hx hb d_MM_call_56 (by decide) ?_
        refine lv_iload hx hb d_MM_call_57 (lv_at hl 0 rfl) ?_
        refine lv_imul hx hb d_MM_call_59 ?_
        rw [mul3 _]
        refine lv_iconst (v := 1) hx hb d_MM_call_60 (by decide) ?_
        refine lv_iadd hx hb d_MM_call_61 ?_
        rw [nI_1 _]
        refine lv_iload_n hx hb d_MM_call_62 rfl (lv_at hl 3 rfl) ?_
        refine lv_iconst (v := 4) hx hb d_MM_call_63 (by decide) ?_
        refine lv_irem hx hb d_MM_call_64 (by decide) ?_
        rw [rem4 (show mt < 2 ^ 31 by omega)]
        rw [e4]
        refine lv_iconst (v := 1) hx hb d_MM_call_65 (by decide) ?_
        refine lv_icmp_le (tgt := 74) hx hb d_MM_call_66 (by decide) (fun _ => ?_) (fun h9 => absurd (by decide) h9)
        refine lv_iconst (v := 0) hx hb d_MM_call_74 (by decide) ?_
        refine g_iast (k := 3 * ((kIs σ).length) + 1) hx hb hK.1 hP hS 0 (show A103 (36, 0) = some (ad 15, .inl (cI, 480, .inl (upd (F 15) (3 * ((kIs σ).length)) (xa)))) from hM104.2.1 15 rfl) rfl (vp_in_nI (show 3 * ((kIs σ).length) + 1 < 480 by omega) (by omega)) (nI_clamp (show 3 * ((kIs σ).length) + 1 < 2 ^ 31 by omega)) d_MM_call_75 (fun H locs hP hS => ?_)
        obtain ⟨A106, eA106⟩ : ∃ z, z = gU A103 (36, 0) (ad 15, .inl (cI, 480, .inl (upd (upd (F 15) (3 * ((kIs σ).length)) (xa)) (3 * ((kIs σ).length) + 1) (0)))) := ⟨_, rfl⟩
        replace hP : gP D classes b A106 H := by rw [eA106]; exact hP
        have hM107 : rMM cI cZ cL A106 h ad (va_up (va_up (nF F ((kIs σ).length) mk mt 0 (-1)) 15 (upd (F 15) (3 * ((kIs σ).length)) (xa))) 15 (upd (upd (F 15) (3 * ((kIs σ).length)) (xa)) (3 * ((kIs σ).length) + 1) (0))) G ((kBu σ).length) ((kRs σ).length) ((kIs σ).length + 1) (kMk σ) := by rw [eA106]; exact hM104.put 15 rfl _
        have glA106 : gL A A106 := by rw [eA106]; exact glA103.U (by decide)
        refine lv_aload_n hx hb d_MM_call_76 rfl (lv_at hl 1 rfl) ?_
        refine g_get hx hb hts i_MM hown hK.1 hP (show A106 (20, 0) = some (h, .inr (5, [.ref (ad 0), .ref (ad 1), .int (nI ((kBu σ).length)), .ref (ad 3), .ref (ad 4), .ref (ad 5), .ref (ad 6), .ref (ad 7), .ref (ad 8), .ref (ad 9), .ref (ad 10), .int (nI ((kRs σ).length)), .ref (ad 12), .ref (ad 13), .ref (ad 14), .ref (ad 15), .ref (ad 16), .ref (ad 17), .ref (ad 18), .ref (ad 19), .ref (ad 20), .ref (ad 21), .int (nI ((kIs σ).length + 1)), .int (nI (kMk σ) - 1)])) from hM107.1) rfl 15 (by decide) (hts _ k_458) (fun _ h9 => h9) rfl d_MM_call_77 ?_
        refine lv_iconst (v := 3) hx hb d_MM_call_80 (by decide) ?_
        refine lv_iload hx hb d_MM_call_81 (lv_at hl 0 rfl) ?_
        refine lv_imul hx hb d_MM_call_83 ?_
        rw [mul3 _]
        refine lv_iconst (v := 2) hx hb d_MM_call_84 (by decide) ?_
        refine lv_iadd hx hb d_MM_call_85 ?_
        rw [add2' _]
        refine lv_iload_n hx hb d_MM_call_86 rfl (lv_at hl 3 rfl) ?_
        refine lv_iconst (v := 4) hx hb d_MM_call_87 (by decide) ?_
        refine lv_irem hx hb d_MM_call_88 (by decide) ?_
        rw [rem4 (show mt < 2 ^ 31 by omega)]
        rw [e4]
        refine lv_iconst (v := 2) hx hb d_MM_call_89 (by decide) ?_
        refine lv_icmp_le (tgt := 98) hx hb d_MM_call_90 (by decide) (fun _ => ?_) (fun h9 => absurd (by decide) h9)
        refine lv_iconst (v := 0) hx hb d_MM_call_98 (by decide) ?_
        refine g_iast (k := 3 * ((kIs σ).length) + 2) hx hb hK.1 hP hS 0 (show A106 (36, 0) = some (ad 15, .inl (cI, 480, .inl (upd (upd (F 15) (3 * ((kIs σ).length)) (xa)) (3 * ((kIs σ).length) + 1) (0)))) from hM107.2.1 15 rfl) rfl (vp_in_nI (show 3 * ((kIs σ).length) + 2 < 480 by omega) (by omega)) (nI_clamp (show 3 * ((kIs σ).length) + 2 < 2 ^ 31 by omega)) d_MM_call_99 (fun H locs hP hS => ?_)
        obtain ⟨A109, eA109⟩ : ∃ z, z = gU A106 (36, 0) (ad 15, .inl (cI, 480, .inl (upd (upd (upd (F 15) (3 * ((kIs σ).length)) (xa)) (3 * ((kIs σ).length) + 1) (0)) (3 * ((kIs σ).length) + 2) (0)))) := ⟨_, rfl⟩
        replace hP : gP D classes b A109 H := by rw [eA109]; exact hP
        have hM110 : rMM cI cZ cL A109 h ad (va_up (va_up (va_up (nF F ((kIs σ).length) mk mt 0 (-1)) 15 (upd (F 15) (3 * ((kIs σ).length)) (xa))) 15 (upd (upd (F 15) (3 * ((kIs σ).length)) (xa)) (3 * ((kIs σ).length) + 1) (0))) 15 (upd (upd (upd (F 15) (3 * ((kIs σ).length)) (xa)) (3 * ((kIs σ).length) + 1) (0)) (3 * ((kIs σ).length) + 2) (0))) G ((kBu σ).length) ((kRs σ).length) ((kIs σ).length + 1) (kMk σ) := by rw [eA109]; exact hM107.put 15 rfl _
        have glA109 : gL A A109 := by rw [eA109]; exact glA106.U (by decide)
        have hx3 := hx2.trans (cut_1 _ e4)
        have hMa : rMM cI cZ cL A109 h ad (aF (nF F ((kIs σ).length) mk mt 0 (-1)) ((kIs σ).length) x2) G ((kBu σ).length) ((kRs σ).length) ((kIs σ).length + 1) (kMk σ) := by rw [hx3]; exact hM110
        refine lv_aload_n hx hb d_MM_call_100 rfl (lv_at hl 1 rfl) ?_
        refine lv_iload hx hb d_MM_call_101 (lv_at hl 0 rfl) ?_
        refine g_ci (B := fun A2 H => gP D classes b A2 H) (g_runV (As := [.int (nI ((kIs σ).length))]) (rest := []) ⟨hx, hb, hml, hown, hts⟩ (c_MM_action l hMa (rs := (kRs σ)) hR.2.1 hw.U.2.2.1 hw.U.1 (i := (kIs σ).length) (by omega) (a := fun k => iRu (((kIs σ)).getD k i0)) (ruLeU hw.U) (fun k hk => (pk_un (Nat.ne_of_lt hk)).trans (hR.2.2.2.2.1 k (show k < ((kIs σ)).length by omega)).2.2.2.2.2.1) hw.U.2.2.2.2 (mk := mk) (mt := mt) (x := x2) (by omega) pk_us (fun j hj => aF_15 _ _ _ j hj) (by omega) pk_us pk_us) st_MM_action k_549 ⟨rfl, rfl, by decide, by decide⟩ rfl (gI.preV hK hS hP (show A109 (20, 0) = some (h, .inr (5, [.ref (ad 0), .ref (ad 1), .int (nI ((kBu σ).length)), .ref (ad 3), .ref (ad 4), .ref (ad 5), .ref (ad 6), .ref (ad 7), .ref (ad 8), .ref (ad 9), .ref (ad 10), .int (nI ((kRs σ).length)), .ref (ad 12), .ref (ad 13), .ref (ad 14), .ref (ad 15), .ref (ad 16), .ref (ad 17), .ref (ad 18), .ref (ad 19), .ref (ad 20), .ref (ad 21), .int (nI ((kIs σ).length + 1)), .int (nI (kMk σ) - 1)])) from hM110.1) rfl _) rfl hl.1 rfl (Nat.le_of_ble_eq_true rfl) d_MM_call_103 ⟨by decide, by decide⟩) hS (fun r113 A111 H locs hp112 hP hS => ?_)
        replace hP : gP D classes b A111 H := hP
        refine W.widen (k := 0) (n := 0) (by decide) (by decide) ?_
        obtain ⟨hz2, hMc, glc⟩ := hp112
        rw [hz2, ← hr2]
        have gld := gL.trans glA109 glc
        refine lv_istore (lv' := [(7, .int (actN (kRs σ) r2)), (6, .int (nI ((kIs σ).length))), (0, .ref h), (1, .int (nI mk)), (2, .int (nI mt)), (3, .int xa), (4, .int xb), (5, .int xc)]) hx hb d_MM_call_106 hl (by decide) rfl (fun ls hl => ?_)
        have hMd : rMM cI cZ cL A111 h ad (sF F ((kIs σ).length) (mk) (mt) (0) (-1) x2 r2) G (kBu σ).length (kRs σ).length ((kIs σ) ++ [t2]).length (kMk σ) := by rw [lenS, hr2]; exact hMc
        have hRd : mRep (sF F ((kIs σ).length) (mk) (mt) (0) (-1) x2 r2) G ((kRs σ), ((kIs σ) ++ [t2]), kSt σ, kBu σ, kMk σ) (kIs σ).length := by rw [ht2]; exact hR.step (ans := ans) rfl (by omega) (by omega)
        have hUd : wfU (kRs σ) ((kIs σ) ++ [t2]) ((kIs σ).length) := by
          skip
          refine wfU.snoc hw.U (by omega) ?_ ?_
          · rw [ht2]; exact ⟨by show mk < 4; omega, by show mt < 8; omega⟩
          · rw [ht2]; show r2 ≤ _; rw [hr2]; exact ruFor_le _ _ _ _
        exact hloop 3 (kRs σ) ((kIs σ) ++ [t2]) _ ((kIs σ).length) _ _ _ _ _ (by rw [lenS]) (by omega) hUd (fun d hd => by
          rw [lenS] at hd
          by_cases e : (kIs σ).length + d = (kIs σ).length
          · rw [e, getD_r, ht2]
            show (-1) = kv (kIs σ).length d
            rw [show d = 0 by omega]; rfl
          · rw [getD_l (by omega)]; exact absurd hd (by omega)) (fun k h1 h2 => by
          rw [lenS] at h2
          by_cases e : k = (kIs σ).length
          · rw [e, getD_r, ht2]
          · rw [getD_l (by omega)]; exact absurd h2 (by omega)) (by rw [hlst, ht2]) (by rw [hlst, ht2]; exact Prod.ext e1 (Prod.ext rfl e3)) (by rw [hPf0, ← e2, e3, ht2]; simp) hRd hP hS hMd gld (by rw [hlst, ht2]; exact lv_sub hl [0, 1, 2] rfl)
      · skip
        refine lv_aload_n hx hb d_MM_call_32 rfl (lv_at hl 1 rfl) ?_
        refine g_get hx hb hts i_MM hown hK.1 hP (show A87 (20, 0) = some (h, .inr (5, [.ref (ad 0), .ref (ad 1), .int (nI ((kBu σ).length)), .ref (ad 3), .ref (ad 4), .ref (ad 5), .ref (ad 6), .ref (ad 7), .ref (ad 8), .ref (ad 9), .ref (ad 10), .int (nI ((kRs σ).length)), .ref (ad 12), .ref (ad 13), .ref (ad 14), .ref (ad 15), .ref (ad 16), .ref (ad 17), .ref (ad 18), .ref (ad 19), .ref (ad 20), .ref (ad 21), .int (nI ((kIs σ).length + 1)), .int (nI (kMk σ) - 1)])) from hMn.1) rfl 15 (by decide) (hts _ k_458) (fun _ h9 => h9) rfl d_MM_call_33 ?_
        refine lv_iconst (v := 3) hx hb d_MM_call_36 (by decide) ?_
        refine lv_iload hx hb d_MM_call_37 (lv_at hl 0 rfl) ?_
        refine lv_imul hx hb d_MM_call_39 ?_
        rw [mul3 _]
        refine lv_iload_n hx hb d_MM_call_40 rfl (lv_at hl 3 rfl) ?_
        refine lv_iconst (v := 4) hx hb d_MM_call_41 (by decide) ?_
        refine lv_irem hx hb d_MM_call_42 (by decide) ?_
        rw [rem4 (show mt < 2 ^ 31 by omega)]
        rw [e4]
        refine lv_if_le (tgt := 50) hx hb d_MM_call_43 (by decide) (fun h9 => absurd h9 (by decide)) (fun _ => ?_)
        refine lv_iload_n hx hb d_MM_call_46 rfl (lv_at hl 4 rfl) ?_
        refine lv_goto (tgt := 51) hx hb d_MM_call_47 (by decide) ?_
        refine g_iast (k := 3 * ((kIs σ).length)) hx hb hK.1 hP hS 0 (show A87 (36, 0) = some (ad 15, .inl (cI, 480, .inl (F 15))) from hMn.2.1 15 rfl) rfl (vp_in_nI (show 3 * ((kIs σ).length) < 480 by omega) (by omega)) (nI_clamp (show 3 * ((kIs σ).length) < 2 ^ 31 by omega)) d_MM_call_51 (fun H locs hP hS => ?_)
        obtain ⟨A115, eA115⟩ : ∃ z, z = gU A87 (36, 0) (ad 15, .inl (cI, 480, .inl (upd (F 15) (3 * ((kIs σ).length)) (xa)))) := ⟨_, rfl⟩
        replace hP : gP D classes b A115 H := by rw [eA115]; exact hP
        have hM116 : rMM cI cZ cL A115 h ad (va_up (nF F ((kIs σ).length) mk mt 0 (-1)) 15 (upd (F 15) (3 * ((kIs σ).length)) (xa))) G ((kBu σ).length) ((kRs σ).length) ((kIs σ).length + 1) (kMk σ) := by rw [eA115]; exact hMn.put 15 rfl _
        have glA115 : gL A A115 := by rw [eA115]; exact glm.U (by decide)
        refine lv_aload_n hx hb d_MM_call_52 rfl (lv_at hl 1 rfl) ?_
        refine g_get hx hb hts i_MM hown hK.1 hP (show A115 (20, 0) = some (h, .inr (5, [.ref (ad 0), .ref (ad 1), .int (nI ((kBu σ).length)), .ref (ad 3), .ref (ad 4), .ref (ad 5), .ref (ad 6), .ref (ad 7), .ref (ad 8), .ref (ad 9), .ref (ad 10), .int (nI ((kRs σ).length)), .ref (ad 12), .ref (ad 13), .ref (ad 14), .ref (ad 15), .ref (ad 16), .ref (ad 17), .ref (ad 18), .ref (ad 19), .ref (ad 20), .ref (ad 21), .int (nI ((kIs σ).length + 1)), .int (nI (kMk σ) - 1)])) from hM116.1) rfl 15 (by decide) (hts _ k_458) (fun _ h9 => h9) rfl d_MM_call_53 ?_
        refine lv_iconst (v := 3) hx hb d_MM_call_56 (by decide) ?_
        refine lv_iload hx hb d_MM_call_57 (lv_at hl 0 rfl) ?_
        refine lv_imul hx hb d_MM_call_59 ?_
        rw [mul3 _]
        refine lv_iconst (v := 1) hx hb d_MM_call_60 (by decide) ?_
        refine lv_iadd hx hb d_MM_call_61 ?_
        rw [nI_1 _]
        refine lv_iload_n hx hb d_MM_call_62 rfl (lv_at hl 3 rfl) ?_
        refine lv_iconst (v := 4) hx hb d_MM_call_63 (by decide) ?_
        refine lv_irem hx hb d_MM_call_64 (by decide) ?_
        rw [rem4 (show mt < 2 ^ 31 by omega)]
        rw [e4]
        refine lv_iconst (v := 1) hx hb d_MM_call_65 (by decide) ?_
        refine lv_icmp_le (tgt := 74) hx hb d_MM_call_66 (by decide) (fun h9 => absurd h9 (by decide)) (fun _ => ?_)
        refine lv_iload hx hb d_MM_call_69 (lv_at hl 5 rfl) ?_
        refine lv_goto (tgt := 75) hx hb d_MM_call_71 (by decide) ?_
        refine g_iast (k := 3 * ((kIs σ).length) + 1) hx hb hK.1 hP hS 0 (show A115 (36, 0) = some (ad 15, .inl (cI, 480, .inl (upd (F 15) (3 * ((kIs σ).length)) (xa)))) from hM116.2.1 15 rfl) rfl (vp_in_nI (show 3 * ((kIs σ).length) + 1 < 480 by omega) (by omega)) (nI_clamp (show 3 * ((kIs σ).length) + 1 < 2 ^ 31 by omega)) d_MM_call_75 (fun H locs hP hS => ?_)
        obtain ⟨A118, eA118⟩ : ∃ z, z = gU A115 (36, 0) (ad 15, .inl (cI, 480, .inl (upd (upd (F 15) (3 * ((kIs σ).length)) (xa)) (3 * ((kIs σ).length) + 1) (xb)))) := ⟨_, rfl⟩
        replace hP : gP D classes b A118 H := by rw [eA118]; exact hP
        have hM119 : rMM cI cZ cL A118 h ad (va_up (va_up (nF F ((kIs σ).length) mk mt 0 (-1)) 15 (upd (F 15) (3 * ((kIs σ).length)) (xa))) 15 (upd (upd (F 15) (3 * ((kIs σ).length)) (xa)) (3 * ((kIs σ).length) + 1) (xb))) G ((kBu σ).length) ((kRs σ).length) ((kIs σ).length + 1) (kMk σ) := by rw [eA118]; exact hM116.put 15 rfl _
        have glA118 : gL A A118 := by rw [eA118]; exact glA115.U (by decide)
        refine lv_aload_n hx hb d_MM_call_76 rfl (lv_at hl 1 rfl) ?_
        refine g_get hx hb hts i_MM hown hK.1 hP (show A118 (20, 0) = some (h, .inr (5, [.ref (ad 0), .ref (ad 1), .int (nI ((kBu σ).length)), .ref (ad 3), .ref (ad 4), .ref (ad 5), .ref (ad 6), .ref (ad 7), .ref (ad 8), .ref (ad 9), .ref (ad 10), .int (nI ((kRs σ).length)), .ref (ad 12), .ref (ad 13), .ref (ad 14), .ref (ad 15), .ref (ad 16), .ref (ad 17), .ref (ad 18), .ref (ad 19), .ref (ad 20), .ref (ad 21), .int (nI ((kIs σ).length + 1)), .int (nI (kMk σ) - 1)])) from hM119.1) rfl 15 (by decide) (hts _ k_458) (fun _ h9 => h9) rfl d_MM_call_77 ?_
        refine lv_iconst (v := 3) hx hb d_MM_call_80 (by decide) ?_
        refine lv_iload hx hb d_MM_call_81 (lv_at hl 0 rfl) ?_
        refine lv_imul hx hb d_MM_call_83 ?_
        rw [mul3 _]
        refine lv_iconst (v := 2) hx hb d_MM_call_84 (by decide) ?_
        refine lv_iadd hx hb d_MM_call_85 ?_
        rw [add2' _]
        refine lv_iload_n hx hb d_MM_call_86 rfl (lv_at hl 3 rfl) ?_
        refine lv_iconst (v := 4) hx hb d_MM_call_87 (by decide) ?_
        refine lv_irem hx hb d_MM_call_88 (by decide) ?_
        rw [rem4 (show mt < 2 ^ 31 by omega)]
        rw [e4]
        refine lv_iconst (v := 2) hx hb d_MM_call_89 (by decide) ?_
        refine lv_icmp_le (tgt := 98) hx hb d_MM_call_90 (by decide) (fun _ => ?_) (fun h9 => absurd (by decide) h9)
        refine lv_iconst (v := 0) hx hb d_MM_call_98 (by decide) ?_
        refine g_iast (k := 3 * ((kIs σ).length) + 2) hx hb hK.1 hP hS 0 (show A118 (36, 0) = some (ad 15, .inl (cI, 480, .inl (upd (upd (F 15) (3 * ((kIs σ).length)) (xa)) (3 * ((kIs σ).length) + 1) (xb)))) from hM119.2.1 15 rfl) rfl (vp_in_nI (show 3 * ((kIs σ).length) + 2 < 480 by omega) (by omega)) (nI_clamp (show 3 * ((kIs σ).length) + 2 < 2 ^ 31 by omega)) d_MM_call_99 (fun H locs hP hS => ?_)
        obtain ⟨A121, eA121⟩ : ∃ z, z = gU A118 (36, 0) (ad 15, .inl (cI, 480, .inl (upd (upd (upd (F 15) (3 * ((kIs σ).length)) (xa)) (3 * ((kIs σ).length) + 1) (xb)) (3 * ((kIs σ).length) + 2) (0)))) := ⟨_, rfl⟩
        replace hP : gP D classes b A121 H := by rw [eA121]; exact hP
        have hM122 : rMM cI cZ cL A121 h ad (va_up (va_up (va_up (nF F ((kIs σ).length) mk mt 0 (-1)) 15 (upd (F 15) (3 * ((kIs σ).length)) (xa))) 15 (upd (upd (F 15) (3 * ((kIs σ).length)) (xa)) (3 * ((kIs σ).length) + 1) (xb))) 15 (upd (upd (upd (F 15) (3 * ((kIs σ).length)) (xa)) (3 * ((kIs σ).length) + 1) (xb)) (3 * ((kIs σ).length) + 2) (0))) G ((kBu σ).length) ((kRs σ).length) ((kIs σ).length + 1) (kMk σ) := by rw [eA121]; exact hM119.put 15 rfl _
        have glA121 : gL A A121 := by rw [eA121]; exact glA118.U (by decide)
        have hx3 := hx2.trans (cut_2 _ e4)
        have hMa : rMM cI cZ cL A121 h ad (aF (nF F ((kIs σ).length) mk mt 0 (-1)) ((kIs σ).length) x2) G ((kBu σ).length) ((kRs σ).length) ((kIs σ).length + 1) (kMk σ) := by rw [hx3]; exact hM122
        refine lv_aload_n hx hb d_MM_call_100 rfl (lv_at hl 1 rfl) ?_
        refine lv_iload hx hb d_MM_call_101 (lv_at hl 0 rfl) ?_
        refine g_ci (B := fun A2 H => gP D classes b A2 H) (g_runV (As := [.int (nI ((kIs σ).length))]) (rest := []) ⟨hx, hb, hml, hown, hts⟩ (c_MM_action l hMa (rs := (kRs σ)) hR.2.1 hw.U.2.2.1 hw.U.1 (i := (kIs σ).length) (by omega) (a := fun k => iRu (((kIs σ)).getD k i0)) (ruLeU hw.U) (fun k hk => (pk_un (Nat.ne_of_lt hk)).trans (hR.2.2.2.2.1 k (show k < ((kIs σ)).length by omega)).2.2.2.2.2.1) hw.U.2.2.2.2 (mk := mk) (mt := mt) (x := x2) (by omega) pk_us (fun j hj => aF_15 _ _ _ j hj) (by omega) pk_us pk_us) st_MM_action k_549 ⟨rfl, rfl, by decide, by decide⟩ rfl (gI.preV hK hS hP (show A121 (20, 0) = some (h, .inr (5, [.ref (ad 0), .ref (ad 1), .int (nI ((kBu σ).length)), .ref (ad 3), .ref (ad 4), .ref (ad 5), .ref (ad 6), .ref (ad 7), .ref (ad 8), .ref (ad 9), .ref (ad 10), .int (nI ((kRs σ).length)), .ref (ad 12), .ref (ad 13), .ref (ad 14), .ref (ad 15), .ref (ad 16), .ref (ad 17), .ref (ad 18), .ref (ad 19), .ref (ad 20), .ref (ad 21), .int (nI ((kIs σ).length + 1)), .int (nI (kMk σ) - 1)])) from hM122.1) rfl _) rfl hl.1 rfl (Nat.le_of_ble_eq_true rfl) d_MM_call_103 ⟨by decide, by decide⟩) hS (fun r125 A123 H locs hp124 hP hS => ?_)
        replace hP : gP D classes b A123 H := hP
        refine W.widen (k := 0) (n := 0) (by decide) (by decide) ?_
        obtain ⟨hz2, hMc, glc⟩ := hp124
        rw [hz2, ← hr2]
        have gld := gL.trans glA121 glc
        refine lv_istore (lv' := [(7, .int (actN (kRs σ) r2)), (6, .int (nI ((kIs σ).length))), (0, .ref h), (1, .int (nI mk)), (2, .int (nI mt)), (3, .int xa), (4, .int xb), (5, .int xc)]) hx hb d_MM_call_106 hl (by decide) rfl (fun ls hl => ?_)
        have hMd : rMM cI cZ cL A123 h ad (sF F ((kIs σ).length) (mk) (mt) (0) (-1) x2 r2) G (kBu σ).length (kRs σ).length ((kIs σ) ++ [t2]).length (kMk σ) := by rw [lenS, hr2]; exact hMc
        have hRd : mRep (sF F ((kIs σ).length) (mk) (mt) (0) (-1) x2 r2) G ((kRs σ), ((kIs σ) ++ [t2]), kSt σ, kBu σ, kMk σ) (kIs σ).length := by rw [ht2]; exact hR.step (ans := ans) rfl (by omega) (by omega)
        have hUd : wfU (kRs σ) ((kIs σ) ++ [t2]) ((kIs σ).length) := by
          skip
          refine wfU.snoc hw.U (by omega) ?_ ?_
          · rw [ht2]; exact ⟨by show mk < 4; omega, by show mt < 8; omega⟩
          · rw [ht2]; show r2 ≤ _; rw [hr2]; exact ruFor_le _ _ _ _
        exact hloop 3 (kRs σ) ((kIs σ) ++ [t2]) _ ((kIs σ).length) _ _ _ _ _ (by rw [lenS]) (by omega) hUd (fun d hd => by
          rw [lenS] at hd
          by_cases e : (kIs σ).length + d = (kIs σ).length
          · rw [e, getD_r, ht2]
            show (-1) = kv (kIs σ).length d
            rw [show d = 0 by omega]; rfl
          · rw [getD_l (by omega)]; exact absurd hd (by omega)) (fun k h1 h2 => by
          rw [lenS] at h2
          by_cases e : k = (kIs σ).length
          · rw [e, getD_r, ht2]
          · rw [getD_l (by omega)]; exact absurd h2 (by omega)) (by rw [hlst, ht2]) (by rw [hlst, ht2]; exact Prod.ext e1 (Prod.ext rfl e3)) (by rw [hPf0, ← e2, e3, ht2]; simp) hRd hP hS hMd gld (by rw [hlst, ht2]; exact lv_sub hl [0, 1, 2] rfl)
      · skip
        refine lv_aload_n hx hb d_MM_call_32 rfl (lv_at hl 1 rfl) ?_
        refine g_get hx hb hts i_MM hown hK.1 hP (show A87 (20, 0) = some (h, .inr (5, [.ref (ad 0), .ref (ad 1), .int (nI ((kBu σ).length)), .ref (ad 3), .ref (ad 4), .ref (ad 5), .ref (ad 6), .ref (ad 7), .ref (ad 8), .ref (ad 9), .ref (ad 10), .int (nI ((kRs σ).length)), .ref (ad 12), .ref (ad 13), .ref (ad 14), .ref (ad 15), .ref (ad 16), .ref (ad 17), .ref (ad 18), .ref (ad 19), .ref (ad 20), .ref (ad 21), .int (nI ((kIs σ).length + 1)), .int (nI (kMk σ) - 1)])) from hMn.1) rfl 15 (by decide) (hts _ k_458) (fun _ h9 => h9) rfl d_MM_call_33 ?_
        refine lv_iconst (v := 3) hx hb d_MM_call_36 (by decide) ?_
        refine lv_iload hx hb d_MM_call_37 (lv_at hl 0 rfl) ?_
        refine lv_imul hx hb d_MM_call_39 ?_
        rw [mul3 _]
        refine lv_iload_n hx hb d_MM_call_40 rfl (lv_at hl 3 rfl) ?_
        refine lv_iconst (v := 4) hx hb d_MM_call_41 (by decide) ?_
        refine lv_irem hx hb d_MM_call_42 (by decide) ?_
        rw [rem4 (show mt < 2 ^ 31 by omega)]
        rw [e4]
        refine lv_if_le (tgt := 50) hx hb d_MM_call_43 (by decide) (fun h9 => absurd h9 (by decide)) (fun _ => ?_)
        refine lv_iload_n hx hb d_MM_call_46 rfl (lv_at hl 4 rfl) ?_
        refine lv_goto (tgt := 51) hx hb d_MM_call_47 (by decide) ?_
        refine g_iast (k := 3 * ((kIs σ).length)) hx hb hK.1 hP hS 0 (show A87 (36, 0) = some (ad 15, .inl (cI, 480, .inl (F 15))) from hMn.2.1 15 rfl) rfl (vp_in_nI (show 3 * ((kIs σ).length) < 480 by omega) (by omega)) (nI_clamp (show 3 * ((kIs σ).length) < 2 ^ 31 by omega)) d_MM_call_51 (fun H locs hP hS => ?_)
        obtain ⟨A127, eA127⟩ : ∃ z, z = gU A87 (36, 0) (ad 15, .inl (cI, 480, .inl (upd (F 15) (3 * ((kIs σ).length)) (xa)))) := ⟨_, rfl⟩
        replace hP : gP D classes b A127 H := by rw [eA127]; exact hP
        have hM128 : rMM cI cZ cL A127 h ad (va_up (nF F ((kIs σ).length) mk mt 0 (-1)) 15 (upd (F 15) (3 * ((kIs σ).length)) (xa))) G ((kBu σ).length) ((kRs σ).length) ((kIs σ).length + 1) (kMk σ) := by rw [eA127]; exact hMn.put 15 rfl _
        have glA127 : gL A A127 := by rw [eA127]; exact glm.U (by decide)
        refine lv_aload_n hx hb d_MM_call_52 rfl (lv_at hl 1 rfl) ?_
        refine g_get hx hb hts i_MM hown hK.1 hP (show A127 (20, 0) = some (h, .inr (5, [.ref (ad 0), .ref (ad 1), .int (nI ((kBu σ).length)), .ref (ad 3), .ref (ad 4), .ref (ad 5), .ref (ad 6), .ref (ad 7), .ref (ad 8), .ref (ad 9), .ref (ad 10), .int (nI ((kRs σ).length)), .ref (ad 12), .ref (ad 13), .ref (ad 14), .ref (ad 15), .ref (ad 16), .ref (ad 17), .ref (ad 18), .ref (ad 19), .ref (ad 20), .ref (ad 21), .int (nI ((kIs σ).length + 1)), .int (nI (kMk σ) - 1)])) from hM128.1) rfl 15 (by decide) (hts _ k_458) (fun _ h9 => h9) rfl d_MM_call_53 ?_
        refine lv_iconst (v := 3) hx hb d_MM_call_56 (by decide) ?_
        refine lv_iload hx hb d_MM_call_57 (lv_at hl 0 rfl) ?_
        refine lv_imul hx hb d_MM_call_59 ?_
        rw [mul3 _]
        refine lv_iconst (v := 1) hx hb d_MM_call_60 (by decide) ?_
        refine lv_iadd hx hb d_MM_call_61 ?_
        rw [nI_1 _]
        refine lv_iload_n hx hb d_MM_call_62 rfl (lv_at hl 3 rfl) ?_
        refine lv_iconst (v := 4) hx hb d_MM_call_63 (by decide) ?_
        refine lv_irem hx hb d_MM_call_64 (by decide) ?_
        rw [rem4 (show mt < 2 ^ 31 by omega)]
        rw [e4]
        refine lv_iconst (v := 1) hx hb d_MM_call_65 (by decide) ?_
        refine lv_icmp_le (tgt := 74) hx hb d_MM_call_66 (by decide) (fun h9 => absurd h9 (by decide)) (fun _ => ?_)
        refine lv_iload hx hb d_MM_call_69 (lv_at hl 5 rfl) ?_
        refine lv_goto (tgt := 75) hx hb d_MM_call_71 (by decide) ?_
        refine g_iast (k := 3 * ((kIs σ).length) + 1) hx hb hK.1 hP hS 0 (show A127 (36, 0) = some (ad 15, .inl (cI, 480, .inl (upd (F 15) (3 * ((kIs σ).length)) (xa)))) from hM128.2.1 15 rfl) rfl (vp_in_nI (show 3 * ((kIs σ).length) + 1 < 480 by omega) (by omega)) (nI_clamp (show 3 * ((kIs σ).length) + 1 < 2 ^ 31 by omega)) d_MM_call_75 (fun H locs hP hS => ?_)
        obtain ⟨A130, eA130⟩ : ∃ z, z = gU A127 (36, 0) (ad 15, .inl (cI, 480, .inl (upd (upd (F 15) (3 * ((kIs σ).length)) (xa)) (3 * ((kIs σ).length) + 1) (xb)))) := ⟨_, rfl⟩
        replace hP : gP D classes b A130 H := by rw [eA130]; exact hP
        have hM131 : rMM cI cZ cL A130 h ad (va_up (va_up (nF F ((kIs σ).length) mk mt 0 (-1)) 15 (upd (F 15) (3 * ((kIs σ).length)) (xa))) 15 (upd (upd (F 15) (3 * ((kIs σ).length)) (xa)) (3 * ((kIs σ).length) + 1) (xb))) G ((kBu σ).length) ((kRs σ).length) ((kIs σ).length + 1) (kMk σ) := by rw [eA130]; exact hM128.put 15 rfl _
        have glA130 : gL A A130 := by rw [eA130]; exact glA127.U (by decide)
        refine lv_aload_n hx hb d_MM_call_76 rfl (lv_at hl 1 rfl) ?_
        refine g_get hx hb hts i_MM hown hK.1 hP (show A130 (20, 0) = some (h, .inr (5, [.ref (ad 0), .ref (ad 1), .int (nI ((kBu σ).length)), .ref (ad 3), .ref (ad 4), .ref (ad 5), .ref (ad 6), .ref (ad 7), .ref (ad 8), .ref (ad 9), .ref (ad 10), .int (nI ((kRs σ).length)), .ref (ad 12), .ref (ad 13), .ref (ad 14), .ref (ad 15), .ref (ad 16), .ref (ad 17), .ref (ad 18), .ref (ad 19), .ref (ad 20), .ref (ad 21), .int (nI ((kIs σ).length + 1)), .int (nI (kMk σ) - 1)])) from hM131.1) rfl 15 (by decide) (hts _ k_458) (fun _ h9 => h9) rfl d_MM_call_77 ?_
        refine lv_iconst (v := 3) hx hb d_MM_call_80 (by decide) ?_
        refine lv_iload hx hb d_MM_call_81 (lv_at hl 0 rfl) ?_
        refine lv_imul hx hb d_MM_call_83 ?_
        rw [mul3 _]
        refine lv_iconst (v := 2) hx hb d_MM_call_84 (by decide) ?_
        refine lv_iadd hx hb d_MM_call_85 ?_
        rw [add2' _]
        refine lv_iload_n hx hb d_MM_call_86 rfl (lv_at hl 3 rfl) ?_
        refine lv_iconst (v := 4) hx hb d_MM_call_87 (by decide) ?_
        refine lv_irem hx hb d_MM_call_88 (by decide) ?_
        rw [rem4 (show mt < 2 ^ 31 by omega)]
        rw [e4]
        refine lv_iconst (v := 2) hx hb d_MM_call_89 (by decide) ?_
        refine lv_icmp_le (tgt := 98) hx hb d_MM_call_90 (by decide) (fun h9 => absurd h9 (by decide)) (fun _ => ?_)
        refine lv_iload hx hb d_MM_call_93 (lv_at hl 6 rfl) ?_
        refine lv_goto (tgt := 99) hx hb d_MM_call_95 (by decide) ?_
        refine g_iast (k := 3 * ((kIs σ).length) + 2) hx hb hK.1 hP hS 0 (show A130 (36, 0) = some (ad 15, .inl (cI, 480, .inl (upd (upd (F 15) (3 * ((kIs σ).length)) (xa)) (3 * ((kIs σ).length) + 1) (xb)))) from hM131.2.1 15 rfl) rfl (vp_in_nI (show 3 * ((kIs σ).length) + 2 < 480 by omega) (by omega)) (nI_clamp (show 3 * ((kIs σ).length) + 2 < 2 ^ 31 by omega)) d_MM_call_99 (fun H locs hP hS => ?_)
        obtain ⟨A133, eA133⟩ : ∃ z, z = gU A130 (36, 0) (ad 15, .inl (cI, 480, .inl (upd (upd (upd (F 15) (3 * ((kIs σ).length)) (xa)) (3 * ((kIs σ).length) + 1) (xb)) (3 * ((kIs σ).length) + 2) (xc)))) := ⟨_, rfl⟩
        replace hP : gP D classes b A133 H := by rw [eA133]; exact hP
        have hM134 : rMM cI cZ cL A133 h ad (va_up (va_up (va_up (nF F ((kIs σ).length) mk mt 0 (-1)) 15 (upd (F 15) (3 * ((kIs σ).length)) (xa))) 15 (upd (upd (F 15) (3 * ((kIs σ).length)) (xa)) (3 * ((kIs σ).length) + 1) (xb))) 15 (upd (upd (upd (F 15) (3 * ((kIs σ).length)) (xa)) (3 * ((kIs σ).length) + 1) (xb)) (3 * ((kIs σ).length) + 2) (xc))) G ((kBu σ).length) ((kRs σ).length) ((kIs σ).length + 1) (kMk σ) := by rw [eA133]; exact hM131.put 15 rfl _
        have glA133 : gL A A133 := by rw [eA133]; exact glA130.U (by decide)
        have hx3 := hx2.trans (cut_3 _ e4)
        have hMa : rMM cI cZ cL A133 h ad (aF (nF F ((kIs σ).length) mk mt 0 (-1)) ((kIs σ).length) x2) G ((kBu σ).length) ((kRs σ).length) ((kIs σ).length + 1) (kMk σ) := by rw [hx3]; exact hM134
        refine lv_aload_n hx hb d_MM_call_100 rfl (lv_at hl 1 rfl) ?_
        refine lv_iload hx hb d_MM_call_101 (lv_at hl 0 rfl) ?_
        refine g_ci (B := fun A2 H => gP D classes b A2 H) (g_runV (As := [.int (nI ((kIs σ).length))]) (rest := []) ⟨hx, hb, hml, hown, hts⟩ (c_MM_action l hMa (rs := (kRs σ)) hR.2.1 hw.U.2.2.1 hw.U.1 (i := (kIs σ).length) (by omega) (a := fun k => iRu (((kIs σ)).getD k i0)) (ruLeU hw.U) (fun k hk => (pk_un (Nat.ne_of_lt hk)).trans (hR.2.2.2.2.1 k (show k < ((kIs σ)).length by omega)).2.2.2.2.2.1) hw.U.2.2.2.2 (mk := mk) (mt := mt) (x := x2) (by omega) pk_us (fun j hj => aF_15 _ _ _ j hj) (by omega) pk_us pk_us) st_MM_action k_549 ⟨rfl, rfl, by decide, by decide⟩ rfl (gI.preV hK hS hP (show A133 (20, 0) = some (h, .inr (5, [.ref (ad 0), .ref (ad 1), .int (nI ((kBu σ).length)), .ref (ad 3), .ref (ad 4), .ref (ad 5), .ref (ad 6), .ref (ad 7), .ref (ad 8), .ref (ad 9), .ref (ad 10), .int (nI ((kRs σ).length)), .ref (ad 12), .ref (ad 13), .ref (ad 14), .ref (ad 15), .ref (ad 16), .ref (ad 17), .ref (ad 18), .ref (ad 19), .ref (ad 20), .ref (ad 21), .int (nI ((kIs σ).length + 1)), .int (nI (kMk σ) - 1)])) from hM134.1) rfl _) rfl hl.1 rfl (Nat.le_of_ble_eq_true rfl) d_MM_call_103 ⟨by decide, by decide⟩) hS (fun r137 A135 H locs hp136 hP hS => ?_)
        replace hP : gP D classes b A135 H := hP
        refine W.widen (k := 0) (n := 0) (by decide) (by decide) ?_
        obtain ⟨hz2, hMc, glc⟩ := hp136
        rw [hz2, ← hr2]
        have gld := gL.trans glA133 glc
        refine lv_istore (lv' := [(7, .int (actN (kRs σ) r2)), (6, .int (nI ((kIs σ).length))), (0, .ref h), (1, .int (nI mk)), (2, .int (nI mt)), (3, .int xa), (4, .int xb), (5, .int xc)]) hx hb d_MM_call_106 hl (by decide) rfl (fun ls hl => ?_)
        have hMd : rMM cI cZ cL A135 h ad (sF F ((kIs σ).length) (mk) (mt) (0) (-1) x2 r2) G (kBu σ).length (kRs σ).length ((kIs σ) ++ [t2]).length (kMk σ) := by rw [lenS, hr2]; exact hMc
        have hRd : mRep (sF F ((kIs σ).length) (mk) (mt) (0) (-1) x2 r2) G ((kRs σ), ((kIs σ) ++ [t2]), kSt σ, kBu σ, kMk σ) (kIs σ).length := by rw [ht2]; exact hR.step (ans := ans) rfl (by omega) (by omega)
        have hUd : wfU (kRs σ) ((kIs σ) ++ [t2]) ((kIs σ).length) := by
          skip
          refine wfU.snoc hw.U (by omega) ?_ ?_
          · rw [ht2]; exact ⟨by show mk < 4; omega, by show mt < 8; omega⟩
          · rw [ht2]; show r2 ≤ _; rw [hr2]; exact ruFor_le _ _ _ _
        exact hloop 3 (kRs σ) ((kIs σ) ++ [t2]) _ ((kIs σ).length) _ _ _ _ _ (by rw [lenS]) (by omega) hUd (fun d hd => by
          rw [lenS] at hd
          by_cases e : (kIs σ).length + d = (kIs σ).length
          · rw [e, getD_r, ht2]
            show (-1) = kv (kIs σ).length d
            rw [show d = 0 by omega]; rfl
          · rw [getD_l (by omega)]; exact absurd hd (by omega)) (fun k h1 h2 => by
          rw [lenS] at h2
          by_cases e : k = (kIs σ).length
          · rw [e, getD_r, ht2]
          · rw [getD_l (by omega)]; exact absurd h2 (by omega)) (by rw [hlst, ht2]) (by rw [hlst, ht2]; exact Prod.ext e1 (Prod.ext rfl e3)) (by rw [hPf0, ← e2, e3, ht2]; simp) hRd hP hS hMd gld (by rw [hlst, ht2]; exact lv_sub hl [0, 1, 2] rfl)
    · skip
      replace c3 : (kIs σ).length = 160 := (nI_eq (a := (kIs σ).length) (b := 160) (by omega) (by decide)).mp c3
      refine lv_ldc2 (v := 60000000000) hx hb hown (hts _ k_544) d_MM_call_18 ?_
      have e9 : sCall σ (nI mk) (nI mt) xa xb xc = (σ, xNONE) := by unfold sCall; rw [if_pos (by simp_all), hc1, hc2, if_pos (by omega)]
      refine W.widen (k := 0) (n := 0) (by decide) (by decide) ?_
      exact W.lret hx hb hr (fun t ht _ => ⟨⟨_, A, rfl, ⟨by rw [e9]; rfl, by rw [e9]; exact hB, gL.rf⟩, show gP D classes b A t.heap by rw [ht]; exact hP⟩, hS.F ht⟩) hS.2.2 d_MM_call_21
