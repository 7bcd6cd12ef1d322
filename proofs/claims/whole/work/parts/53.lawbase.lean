/-! THE CLAIM OUT OF ONE WALK OF THE LAW'S BODY. Your part is whole_start (and what it stands on); all else here is the same for every law, but numbers. -/
def lw_P (b : Addr) (xs : List Int32) (args : Array Value) (s : State) : Prop := args = #[.ref b] ∧ s.IntsAt b xs ∧ xs.length ≤ 3072 ∧ (Jvm.Cond.and given_1 narrow_1).before args s = true
def lw_Q (_ : Array Value) (s : State) (o : Outcome) (t : State) : Prop := o = .returned (some (.int 1)) ∧ Framed s o t [] 600000 7302249
def lw_Z (below : List Frame) (a : Array Value) (s : State) : State → Prop := fun t => ∃ o, t.status = .running ∧ Ended t below o ∧ lw_Q a s o t
/-- the law's own end, with 1 on the stack, nothing written that was there before, its room as the claim has it -/
theorem lw_ret {p : Program} {l : Launch} {e : Env} {s : State} {m : MethodId} {below : List Frame} {meth : Method} {c : Code} {b : Nat} (hx : p.tables.exec = Jvm.exec) (hb : c.code = code) (hr : meth.sig.returnType = ret) (hlocks : meth.locks = false) {pc : Nat} {H : Heap} {ls : Array Slot} (hdg : decode code pc = .ok (.ireturn, 1)) : W p l e room_1 s m #[Value.ref b] below meth c H [] 600000 7302249 (lw_Z below #[Value.ref b] s) (F0 m pc ls [.int 1]) := by
  intro T hT X
  obtain ⟨fs, hret, hrun, hended, hW, hframe⟩ := X.leave (v := some (.int 1)) (hlocks := hlocks) (fun h => by rw [hr] at h; cases h)
  have hmeth' : T.vm.method? m = some meth := X.method'
  refine ⟨T.setFrames fs, ?_, .returned (some (.int 1)), hrun, hended, rfl, ⟨_, rfl⟩, hW, hframe⟩
  jvm_step X.here [X.here.top, hx, hb, hdg, hmeth', hr, ret, narrow_b1]
  (try refine ⟨rfl, ?_⟩); (try refine ⟨rfl, ?_⟩)
  first | (intro acts; rw [hret _ acts rfl rfl rfl]) | rw [hret _ _ rfl rfl rfl]
  exact Steps.refl _
/-- what holds at the law's entry: the machine, the code, the tables' words (any of lw_tbl by 'hts w (by decide +kernel)'), the script of L ints xs at the cell b, what the Statement gives of the start (any of its parts by flat_of_before) -/
def lw_At (p : Program) (s : State) (m : MethodId) (meth : Method) (c : Code) (b L : Nat) (xs : Nat → Int32) : Prop :=
  p.tables.exec = Jvm.exec ∧ c.code = code ∧ meth.sig.returnType = ret ∧ c.maxLocals = 4 ∧ s.vm.findClass R_law = some m.cls ∧ (∀ w ∈ lw_tbl, w.before #[Value.ref b] s = true) ∧ va_X b L xs s s.heap ∧ b < s.heap.size ∧ meth.locks = false ∧ (Jvm.Cond.and given_1 narrow_1).before #[Value.ref b] s = true

/-! The law: both sides stand over one book. -/
theorem rMo.keep {cI cZ cL : ClassId} {A A2 : gW} {h : Nat} {σ : Bk} (hg : gO A A2) (hB : rMo cI cZ cL A h σ) : rMo cI cZ cL A2 h σ := by
  obtain ⟨ad, F, G, ⟨m1, m2, m3⟩, hR⟩ := hB
  exact ⟨ad, F, G, ⟨(hg (20, 0) (by decide)).trans m1, fun k hk => (hg (21 + k, 0) (by show 20 ≤ 21 + k; omega)).trans (m2 k hk), (hg (40, 0) (by decide)).trans m3⟩, hR⟩
theorem rBk.keep {cI cZ cO : ClassId} {e0 : Nat} {A A2 : gW} {h : Nat} {σ : Bk} (hg : gL A A2) (hB : rBk cI cZ cO e0 A h σ) : rBk cI cZ cO e0 A2 h σ := by
  obtain ⟨ra, ia, sa, ua, aR, aI, aM, fs, fB, hLR, hLI, fS, hfs, hBu, hRs, hIs⟩ := hB
  have hk : ∀ n i, n < 20 → A2 (n, i) = A (n, i) := fun n i hn => hg (n, i) hn
  exact ⟨ra, ia, sa, ua, aR, aI, aM, fs, (hk 0 0 (by decide)).trans fB, hLR.keep' (hk 1 0 (by decide)) (hk 2 0 (by decide)) (hk 3 0 (by decide)) (fun i _ => hk 8 i (by decide)), hLI.keep' (hk 1 1 (by decide)) (hk 2 1 (by decide)) (hk 3 0 (by decide)) (fun i _ => hk 11 i (by decide)), (hk 4 0 (by decide)).trans fS, hfs, hBu.keep (hk 5 _ (by decide)) (hk 6 _ (by decide)) (hk 7 _ (by decide)), fun i hi => ⟨(hRs i hi).1.keep (hk 5 _ (by decide)) (hk 6 _ (by decide)) (hk 7 _ (by decide)), (hRs i hi).2.keep (hk 8 _ (by decide)) (hk 9 _ (by decide)) (hk 10 _ (by decide))⟩, fun i hi => (hIs i hi).keep (hk 11 _ (by decide))⟩
theorem lawge {L i : Nat} (hL : L ≤ 3072) (hi : i ≤ 3072) : (nI L - 6 < nI i) ↔ L < i + 6 := by
  rw [Int32.lt_iff_toInt_lt, show (nI L - 6 : Int32) = nI L - nI 6 from rfl, pk_sub_toInt (by omega) (by decide), nI_toInt (by omega)]
  omega
theorem lgc (x : Int64) : lg_cmp x x = 0 := by simp [lg_cmp]
