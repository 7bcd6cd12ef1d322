/-! What every method of ours starts from, and how it calls another. TT: the tables' words that stay; gNW: the nest's and the casts' words; both stand among the names. -/
theorem gne {n k : gN} (h : n.1 ≠ k.1) : n ≠ k := fun e => h (congrArg Prod.fst e)
theorem gne2 {n k : gN} (h : n.2 ≠ k.2) : n ≠ k := fun e => h (congrArg Prod.snd e)
def gNest : Cond → Bool
  | .methodLinkNest .. => true
  | .castable .. => true
  | _ => false
theorem gNW_ok : ∀ w ∈ gNW, gNest w = true := by decide +kernel
theorem gNest_warm {s U : State} (hW : s.WarmedH U.vm) {w : Cond} (hw : gNest w = true) (h : va_Nw w s) : va_Nw w U := by
  cases w <;> first | exact va_Nw.warmM hW h | exact va_Nw.warmC hW h | exact absurd hw (by simp [gNest])
theorem gNest_same {u U : State} (hv : u.vm = U.vm) {w : Cond} (hw : gNest w = true) (h : va_Nw w u) : va_Nw w U := by
  cases w <;> first | exact va_Nw.same rfl hv h | exact absurd hw (by simp [gNest])
/-- the tables, the nest, the static that lists begin with, as the state U with the heap H has them -/
def gK (D : va_G) (tys : List (ClassId × FieldType)) (b e0 : Nat) (U : State) (H : Heap) : Prop :=
  va_K D classes tys U ∧ (∀ w ∈ gNW, va_Nw w U) ∧ va_AO "java/lang/Object" U ∧ va_Z "java/util/ArrayList" "DEFAULTCAPACITY_EMPTY_ELEMENTDATA" "[Ljava/lang/Object;" (.ref e0) (fun q => b ≤ q) U H ∧ va_Dc U ∧ ∃ mi : Nat, va_Mi "[Ljava/lang/Object;" mi U
theorem gK.go {D : va_G} {tys : List (ClassId × FieldType)} {b e0 : Nat} {s U : State} {H : Heap} {locs : List Loc} (h : gK D tys b e0 s s.heap) (hS : gS b s.heap H locs) (hU : U.heap = H) (hW : s.WarmedH U.vm) : gK D tys b e0 U U.heap :=
  ⟨va_K.moved hW.alike h.1, fun w hw => gNest_warm hW (gNW_ok w hw) (h.2.1 w hw), va_AO.moved hW.alike h.2.2.1, by rw [hU]; exact (va_Z.moved hW.alike h.2.2.2.1).kept (fun a h1 h2 => hS.2.1 a h1 h2), va_Dc.moved hW.alike h.2.2.2.2.1, h.2.2.2.2.2.elim fun mi hm => ⟨mi, va_Mi.moved hW.alike hm⟩⟩
theorem gK.calling {D : va_G} {tys : List (ClassId × FieldType)} {b e0 : Nat} {U : State} (h : gK D tys b e0 U U.heap) (g : JFrame) (mk : MethodId) (a : Array Value) : gK D tys b e0 (U.calling g mk a) (U.calling g mk a).heap :=
  ⟨va_K.moved (u := U) (U := U.calling g mk a) (Vm.Alike.refl U.vm) h.1, fun w hw => gNest_same (u := U) (U := U.calling g mk a) rfl (gNW_ok w hw) (h.2.1 w hw), va_AO.moved (u := U) (U := U.calling g mk a) (Vm.Alike.refl U.vm) h.2.2.1, va_Z.moved (u := U) (U := U.calling g mk a) (Vm.Alike.refl U.vm) h.2.2.2.1, va_Dc.moved (u := U) (U := U.calling g mk a) (Vm.Alike.refl U.vm) h.2.2.2.2.1, h.2.2.2.2.2.elim fun mi hm => ⟨mi, va_Mi.moved (u := U) (U := U.calling g mk a) (Vm.Alike.refl U.vm) hm⟩⟩
/-- a method of ours starts with the world A -/
def gI (D : va_G) (tys : List (ClassId × FieldType)) (b e0 : Nat) (A : gW) (U : State) : Prop := gP D classes b A U.heap ∧ gK D tys b e0 U U.heap
theorem gI.pre {D : va_G} {tys : List (ClassId × FieldType)} {b e0 : Nat} {A : gW} {s : State} {H : Heap} {locs : List Loc} (hK : gK D tys b e0 s s.heap) (hS : gS b s.heap H locs) (hP : gP D classes b A H) (As : List Value) : PreS s H (va_Pc As (gI D tys b e0 A)) As :=
  ⟨fun a U g mk q => ⟨q.1, q.2.1, gK.calling q.2.2 g mk a⟩, fun U hU hW => ⟨rfl, by rw [hU]; exact hP, hK.go hS hU hW⟩⟩
theorem gI.preV {D : va_G} {tys : List (ClassId × FieldType)} {b e0 : Nat} {A : gW} {s : State} {H : Heap} {locs : List Loc} (hK : gK D tys b e0 s s.heap) (hS : gS b s.heap H locs) (hP : gP D classes b A H) {n : gN} {a ci : Nat} {fs : List Value} (he : A n = some (a, .inr (ci, fs))) {q : vw_C} (hc : classes[ci]? = some q) (As : List Value) : PreV s H q.1 a (va_Pc (.ref a :: As) (gI D tys b e0 A)) As :=
  ⟨(gI.pre hK hS hP (.ref a :: As)).1, va_recv (q0 := 0) hK.1 (hP.one he) hc rfl, (gI.pre hK hS hP (.ref a :: As)).2⟩
theorem gT_pre {s : State} {H : Heap} (As : List Value) : PreS s H (va_Pc As (fun _ => True)) As := ⟨fun _ _ _ _ q => q, fun _ _ _ => ⟨rfl, trivial⟩⟩
theorem TT_in {w : Cond} (h : w ∈ TT) : GoodIn TT (w :: TT) := by
  intro x hx
  have hx' : x ∈ TT := by
    rcases List.mem_cons.mp hx with e | e
    · rw [e]; exact h
    · exact e
  exact ⟨hx', good_of_word (TT_good x hx')⟩
/-- a method, its code among the words: proved from its body -/
theorem Met.ofG {l : Launch} {y : MethodName} {rm : Room} {I : State → Prop} {Qc : Array Value → State → Outcome → State → Prop} {mc ms : Nat} {free : Addr → Prop} {cc : ByteArray} {maxL : Nat} {ret : Option FieldType} {av : List Value} {own : String} (hy : plainName y.cls = true) (hyc : y.cls = own) (hsz : (lg_sl av).length ≤ maxL)
    (body : ∀ (p : Program) (e : Env) (s : State) (m : MethodId) (below : List Frame) (meth : Method) (c : Code) (ls : Array Slot), p.tables.exec = Jvm.exec → c.code = cc → meth.sig.returnType = ret → meth.locks = false → c.maxLocals = maxL → s.vm.findClass own = some m.cls → meth.name = y.name → (∀ w ∈ TT, w.before av.toArray s = true) → I s → lv_has ls maxL (lv_args 0 av) →
      W p l e rm s m av.toArray below meth c s.heap [] 0 0 (MQ below Qc av.toArray s mc ms free) (F0 m 0 ls [])) : Met l y (Cond.code y cc maxL ret :: TT) rm (va_Pc av I) Qc mc ms free := by
  refine Met.ofW (cc := cc) (maxL := maxL) (ret := ret) hy rfl ?_
  intro p e s m args below meth c s₁ B hml hv
  obtain ⟨rfl, hI⟩ := hv
  have hts := atoms_spec (ws := Cond.code y cc maxL ret :: TT) B.pre
  have hown : s.vm.findClass own = some m.cls := hyc ▸ findClass_of_methodNamed B.named
  have hl := lv_entry av (n := maxL) hsz
  rw [lg_entry_eq]
  exact body p e s m below meth c _ B.exec B.bytes B.returns B.notSynchronized hml hown (name_of_methodNamed B.named B.method).1 (fun w h => hts w (List.mem_cons_of_mem _ h)) hI hl
/-- the same of a member that the machine has no entry for -/
theorem Met.ofGF {l : Launch} {y : MethodName} {rm : Room} {I : State → Prop} {Qc : Array Value → State → Outcome → State → Prop} {mc ms : Nat} {free : Addr → Prop} {cc : ByteArray} {maxL : Nat} {ret : Option FieldType} {av : List Value} {own : String} (hy : plainFor y = true) (hyc : y.cls = own) (hsz : (lg_sl av).length ≤ maxL)
    (body : ∀ (p : Program) (e : Env) (s : State) (m : MethodId) (below : List Frame) (meth : Method) (c : Code) (ls : Array Slot), p.tables.exec = Jvm.exec → c.code = cc → meth.sig.returnType = ret → meth.locks = false → c.maxLocals = maxL → s.vm.findClass own = some m.cls → meth.name = y.name → (∀ w ∈ TT, w.before av.toArray s = true) → I s → lv_has ls maxL (lv_args 0 av) →
      W p l e rm s m av.toArray below meth c s.heap [] 0 0 (MQ below Qc av.toArray s mc ms free) (F0 m 0 ls [])) : Met l y (Cond.code y cc maxL ret :: TT) rm (va_Pc av I) Qc mc ms free := by
  refine va_MetF (cc := cc) (maxL := maxL) (ret := ret) hy rfl ?_
  intro p e s m args below meth c s₁ B hml hv
  obtain ⟨rfl, hI⟩ := hv
  have hts := atoms_spec (ws := Cond.code y cc maxL ret :: TT) B.pre
  have hown : s.vm.findClass own = some m.cls := hyc ▸ findClass_of_methodNamed B.named
  have hl := lv_entry av (n := maxL) hsz
  rw [lg_entry_eq]
  exact body p e s m below meth c _ B.exec B.bytes B.returns B.notSynchronized hml hown (name_of_methodNamed B.named B.method).1 (fun w h => hts w (List.mem_cons_of_mem _ h)) hI hl
abbrev gNo (y : MethodName) (n : Nat) : Prop := y.cls ≠ "java/lang/invoke/MethodHandle" ∧ y.cls ≠ "java/lang/invoke/VarHandle" ∧ (parseMethodDescriptor y.desc).map (fun d => d.parameters.length) = some n
/-- what the tables say of a static method, an instance method, a constructor -/
def gStat (y : MethodName) (bytes : ByteArray) (maxL : Nat) (ret : Option FieldType) (n : Nat) : Prop := Cond.code y bytes maxL ret ∈ TT ∧ Cond.static y ∈ TT ∧ Cond.initialized y.cls ∈ TT ∧ gNo y n
def gVirt (y : MethodName) (bytes : ByteArray) (maxL : Nat) (ret : Option FieldType) (n : Nat) : Prop := Cond.code y bytes maxL ret ∈ TT ∧ Cond.instanceMethod y ∈ TT ∧ Cond.initialized y.cls ∈ TT ∧ Cond.selects y.cls y y ∈ TT ∧ gNo y n
def gInit (y : MethodName) (bytes : ByteArray) (maxL : Nat) (n : Nat) : Prop := Cond.code y bytes maxL none ∈ TT ∧ Cond.instanceMethod y ∈ TT ∧ Cond.initialized y.cls ∈ TT ∧ y.name = "<init>" ∧ gNo y n
def gRoom (rm R : Room) (maxL mc ms : Nat) : Prop := rm.cells = mc ∧ rm.slots = ms ∧ rm.frames + 1 ≤ R.frames ∧ 8 + (maxL + 11) + rm.locals ≤ R.locals
section GR
variable {p : Program} {l : Launch} {e : Env} {R : Room} {s : State} {m : MethodId} {args : Array Value} {below : List Frame} {meth : Method} {c : Code} {H : Heap} {locs : List Loc} {cells slots : Nat}
variable {y : MethodName} {bytes cc : ByteArray} {maxL nL mc ms n index : Nat} {ret : Option FieldType} {rm : Room} {Pc : Array Value → State → Prop} {Qc : Array Value → State → Outcome → State → Prop} {free : Addr → Prop} {own host : String} {b pc : Nat} {As rest st0 : List Value} {ls : Array Slot}
theorem g_runS (S : CallFix p m c cc nL s args TT own) (hM : Met l y (Cond.code y bytes maxL ret :: TT) rm Pc Qc mc ms free) (hg : gStat y bytes maxL ret n) (hl : Cond.methodLink own index y ∈ TT) (hR : gRoom rm R maxL mc ms) (hp : PreS s H Pc As)
    (hn : As.length = n) (hsize : ls.size = nL) (hstack : st0 = As.reverse ++ rest) (hW : (rest.map fun v => v.category).sum ≤ 8) (hdg : decode cc pc = .ok (.invokestatic index, 3)) (hf : cells + mc ≤ R.cells ∧ slots + ms ≤ R.slots) :
    va_Run p l e R s m args below meth c H locs cells slots mc ms (F0 m pc ls st0) rest (Qc As.toArray) free := by
  have hts := S.2.2.2.2
  exact va_runS S hM ⟨callB_of n hts (TT_in hg.1) rfl hR.1 hR.2.1 (hts _ hg.2.2.1) (hts _ hl) hg.2.2.2 hR.2.2, hts _ hg.2.1⟩ hp rfl hn hsize hstack (lv_room hW) hdg hf
theorem g_runV (S : CallFix p m c cc nL s args TT own) (hM : Met l y (Cond.code y bytes maxL ret :: TT) rm Pc Qc mc ms free) (hg : gVirt y bytes maxL ret n) (hl : Cond.methodLink own index y ∈ TT) (hR : gRoom rm R maxL mc ms) {C : String} (hC : y.cls = C) (hp : PreV s H C b Pc As)
    (hn : As.length = n) (hsize : ls.size = nL) (hstack : st0 = As.reverse ++ .ref b :: rest) (hW : (rest.map fun v => v.category).sum ≤ 8) (hdg : decode cc pc = .ok (.invokevirtual index, 3)) (hf : cells + mc ≤ R.cells ∧ slots + ms ≤ R.slots) :
    va_Run p l e R s m args below meth c H locs cells slots mc ms (F0 m pc ls st0) rest (Qc (Value.ref b :: As).toArray) free := by
  subst hC
  have hts := S.2.2.2.2
  exact va_runV S hM ⟨callB_of n hts (TT_in hg.1) rfl hR.1 hR.2.1 (hts _ hg.2.2.1) (hts _ hl) hg.2.2.2.2 hR.2.2, hts _ hg.2.1, hts _ hg.2.2.2.1⟩ hp rfl hn hsize hstack (lv_room hW) hdg hf
theorem g_runI (S : CallFix p m c cc nL s args TT own) (hM : Met l y (Cond.code y bytes maxL none :: TT) rm Pc Qc mc ms free) (hg : gInit y bytes maxL n) (hl : Cond.methodLink own index y ∈ TT) (hR : gRoom rm R maxL mc ms) (hp : PreS s H Pc (.ref b :: As))
    (hn : As.length = n) (hsize : ls.size = nL) (hstack : st0 = As.reverse ++ .ref b :: rest) (hW : (rest.map fun v => v.category).sum ≤ 8) (hdg : decode cc pc = .ok (.invokespecial index, 3)) (hf : cells + mc ≤ R.cells ∧ slots + ms ≤ R.slots) :
    va_Run p l e R s m args below meth c H locs cells slots mc ms (F0 m pc ls st0) rest (Qc (Value.ref b :: As).toArray) free := by
  have hts := S.2.2.2.2
  exact va_runI S hM ⟨callB_of n hts (TT_in hg.1) rfl hR.1 hR.2.1 (hts _ hg.2.2.1) (hts _ hl) hg.2.2.2.2 hR.2.2, hg.2.2.2.1, hts _ hg.2.1⟩ hp rfl hn hsize hstack (lv_room hW) hdg hf
theorem g_runSN (S : CallFix p m c cc nL s args TT own) (hM : Met l y (Cond.code y bytes maxL ret :: TT) rm Pc Qc mc ms free) (hg : gStat y bytes maxL ret n) (hl : va_Nw (.methodLinkNest own index y host) s) (hR : gRoom rm R maxL mc ms) (hp : PreS s H Pc As)
    (hn : As.length = n) (hsize : ls.size = nL) (hstack : st0 = As.reverse ++ rest) (hW : (rest.map fun v => v.category).sum ≤ 8) (hdg : decode cc pc = .ok (.invokestatic index, 3)) (hf : cells + mc ≤ R.cells ∧ slots + ms ≤ R.slots) :
    va_Run p l e R s m args below meth c H locs cells slots mc ms (F0 m pc ls st0) rest (Qc As.toArray) free := by
  have hts := S.2.2.2.2
  exact va_runSN (host := host) S hM ⟨va_cnB n hts (TT_in hg.1) rfl hR.1 hR.2.1 hl (hts _ hg.2.2.1) hg.2.2.2 hR.2.2, hts _ hg.2.1, trivial⟩ hp rfl hn hsize hstack (lv_room hW) hdg hf
theorem g_runIN (S : CallFix p m c cc nL s args TT own) (hM : Met l y (Cond.code y bytes maxL none :: TT) rm Pc Qc mc ms free) (hg : gInit y bytes maxL n) (hl : va_Nw (.methodLinkNest own index y host) s) (hR : gRoom rm R maxL mc ms) (hp : PreS s H Pc (.ref b :: As))
    (hn : As.length = n) (hsize : ls.size = nL) (hstack : st0 = As.reverse ++ .ref b :: rest) (hW : (rest.map fun v => v.category).sum ≤ 8) (hdg : decode cc pc = .ok (.invokespecial index, 3)) (hf : cells + mc ≤ R.cells ∧ slots + ms ≤ R.slots) :
    va_Run p l e R s m args below meth c H locs cells slots mc ms (F0 m pc ls st0) rest (Qc (Value.ref b :: As).toArray) free := by
  have hts := S.2.2.2.2
  exact va_runIN (host := host) S hM ⟨va_cnB n hts (TT_in hg.1) rfl hR.1 hR.2.1 hl (hts _ hg.2.2.1) hg.2.2.2.2 hR.2.2, hg.2.2.2.1, hts _ hg.2.1⟩ hp rfl hn hsize hstack (lv_room hW) hdg hf
end GR
