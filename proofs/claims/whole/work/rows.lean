section
-- ===== PART A: goes FIRST, ahead of the names: the tables' words, and 'selects' of the private methods out of them =====
/-- a private method of a class that the tables say can be made, by its rows of tables_1 -/
def lw_okq (q : MethodName × Nat) : Prop := (q.1.cls ≠ "java/lang/invoke/MethodHandle" ∧ q.1.cls ≠ "java/lang/invoke/VarHandle") ∧ Cond.instantiable q.1.cls q.2 ∈ tables_1 ∧ Cond.privateMethod q.1 ∈ tables_1 ∧ Cond.instanceMethod q.1 ∈ tables_1
theorem lw_p0 : lw_okq (⟨"java/util/ArrayList", "add", "(Ljava/lang/Object;[Ljava/lang/Object;I)V"⟩, 3) := ⟨⟨by decide +kernel, by decide +kernel⟩, List.mem_of_getElem? (i := 24) (by decide +kernel), List.mem_of_getElem? (i := 166) (by decide +kernel), List.mem_of_getElem? (i := 167) (by decide +kernel)⟩
theorem lw_p1 : lw_okq (⟨"java/util/ArrayList", "grow", "()[Ljava/lang/Object;"⟩, 3) := ⟨⟨by decide +kernel, by decide +kernel⟩, List.mem_of_getElem? (i := 24) (by decide +kernel), List.mem_of_getElem? (i := 170) (by decide +kernel), List.mem_of_getElem? (i := 171) (by decide +kernel)⟩
theorem lw_p2 : lw_okq (⟨"java/util/ArrayList", "grow", "(I)[Ljava/lang/Object;"⟩, 3) := ⟨⟨by decide +kernel, by decide +kernel⟩, List.mem_of_getElem? (i := 24) (by decide +kernel), List.mem_of_getElem? (i := 174) (by decide +kernel), List.mem_of_getElem? (i := 175) (by decide +kernel)⟩
theorem lw_p3 : lw_okq (⟨"MockBook", "isRule", "(I)Z"⟩, 5) := ⟨⟨by decide +kernel, by decide +kernel⟩, List.mem_of_getElem? (i := 16) (by decide +kernel), List.mem_of_getElem? (i := 219) (by decide +kernel), List.mem_of_getElem? (i := 220) (by decide +kernel)⟩
theorem lw_p4 : lw_okq (⟨"MockBook", "noteAndRespond", "(IIIIIII)J"⟩, 5) := ⟨⟨by decide +kernel, by decide +kernel⟩, List.mem_of_getElem? (i := 16) (by decide +kernel), List.mem_of_getElem? (i := 259) (by decide +kernel), List.mem_of_getElem? (i := 260) (by decide +kernel)⟩
theorem lw_p5 : lw_okq (⟨"MockBook", "ruleNumberFor", "(LMockBook$Interaction;)I"⟩, 5) := ⟨⟨by decide +kernel, by decide +kernel⟩, List.mem_of_getElem? (i := 16) (by decide +kernel), List.mem_of_getElem? (i := 319) (by decide +kernel), List.mem_of_getElem? (i := 320) (by decide +kernel)⟩
theorem lw_p6 : lw_okq (⟨"MockBook", "respond", "(LMockBook$Interaction;II)J"⟩, 5) := ⟨⟨by decide +kernel, by decide +kernel⟩, List.mem_of_getElem? (i := 16) (by decide +kernel), List.mem_of_getElem? (i := 341) (by decide +kernel), List.mem_of_getElem? (i := 342) (by decide +kernel)⟩
theorem lw_p7 : lw_okq (⟨"MockBook", "pass", "(LMockBook$Interaction;III)J"⟩, 5) := ⟨⟨by decide +kernel, by decide +kernel⟩, List.mem_of_getElem? (i := 16) (by decide +kernel), List.mem_of_getElem? (i := 354) (by decide +kernel), List.mem_of_getElem? (i := 355) (by decide +kernel)⟩
theorem lw_p8 : lw_okq (⟨"MockBook", "countSought", "(II)I"⟩, 5) := ⟨⟨by decide +kernel, by decide +kernel⟩, List.mem_of_getElem? (i := 16) (by decide +kernel), List.mem_of_getElem? (i := 362) (by decide +kernel), List.mem_of_getElem? (i := 363) (by decide +kernel)⟩
theorem lw_p9 : lw_okq (⟨"MockBook", "isSought", "(LMockBook$Interaction;II)Z"⟩, 5) := ⟨⟨by decide +kernel, by decide +kernel⟩, List.mem_of_getElem? (i := 16) (by decide +kernel), List.mem_of_getElem? (i := 366) (by decide +kernel), List.mem_of_getElem? (i := 367) (by decide +kernel)⟩
theorem lw_p10 : lw_okq (⟨"MockBook", "verifySought", "(II)V"⟩, 5) := ⟨⟨by decide +kernel, by decide +kernel⟩, List.mem_of_getElem? (i := 16) (by decide +kernel), List.mem_of_getElem? (i := 374) (by decide +kernel), List.mem_of_getElem? (i := 375) (by decide +kernel)⟩
theorem lw_p11 : lw_okq (⟨"MockBook", "firstSoughtAfterMark", "(II)I"⟩, 5) := ⟨⟨by decide +kernel, by decide +kernel⟩, List.mem_of_getElem? (i := 16) (by decide +kernel), List.mem_of_getElem? (i := 382) (by decide +kernel), List.mem_of_getElem? (i := 383) (by decide +kernel)⟩
theorem lw_p12 : lw_okq (⟨"MockBook", "endRules", "(I)V"⟩, 5) := ⟨⟨by decide +kernel, by decide +kernel⟩, List.mem_of_getElem? (i := 16) (by decide +kernel), List.mem_of_getElem? (i := 402) (by decide +kernel), List.mem_of_getElem? (i := 403) (by decide +kernel)⟩
theorem lw_p13 : lw_okq (⟨"MockBook", "endInteractions", "(I)I"⟩, 5) := ⟨⟨by decide +kernel, by decide +kernel⟩, List.mem_of_getElem? (i := 16) (by decide +kernel), List.mem_of_getElem? (i := 406) (by decide +kernel), List.mem_of_getElem? (i := 407) (by decide +kernel)⟩
theorem lw_p14 : lw_okq (⟨"MockBook", "isInteraction", "(I)Z"⟩, 5) := ⟨⟨by decide +kernel, by decide +kernel⟩, List.mem_of_getElem? (i := 16) (by decide +kernel), List.mem_of_getElem? (i := 414) (by decide +kernel), List.mem_of_getElem? (i := 415) (by decide +kernel)⟩
theorem lw_p15 : lw_okq (⟨"MockBook", "countLiveInteractions", "(Z)I"⟩, 5) := ⟨⟨by decide +kernel, by decide +kernel⟩, List.mem_of_getElem? (i := 16) (by decide +kernel), List.mem_of_getElem? (i := 430) (by decide +kernel), List.mem_of_getElem? (i := 431) (by decide +kernel)⟩
def lw_privs_1 : List (MethodName × Nat) := [(⟨"java/util/ArrayList", "add", "(Ljava/lang/Object;[Ljava/lang/Object;I)V"⟩, 3), (⟨"java/util/ArrayList", "grow", "()[Ljava/lang/Object;"⟩, 3), (⟨"java/util/ArrayList", "grow", "(I)[Ljava/lang/Object;"⟩, 3), (⟨"MockBook", "isRule", "(I)Z"⟩, 5), (⟨"MockBook", "noteAndRespond", "(IIIIIII)J"⟩, 5), (⟨"MockBook", "ruleNumberFor", "(LMockBook$Interaction;)I"⟩, 5), (⟨"MockBook", "respond", "(LMockBook$Interaction;II)J"⟩, 5), (⟨"MockBook", "pass", "(LMockBook$Interaction;III)J"⟩, 5), (⟨"MockBook", "countSought", "(II)I"⟩, 5), (⟨"MockBook", "isSought", "(LMockBook$Interaction;II)Z"⟩, 5), (⟨"MockBook", "verifySought", "(II)V"⟩, 5), (⟨"MockBook", "firstSoughtAfterMark", "(II)I"⟩, 5), (⟨"MockBook", "endRules", "(I)V"⟩, 5), (⟨"MockBook", "endInteractions", "(I)I"⟩, 5), (⟨"MockBook", "isInteraction", "(I)Z"⟩, 5), (⟨"MockBook", "countLiveInteractions", "(Z)I"⟩, 5)]
theorem lw_r1 : ∀ q ∈ lw_privs_1, lw_okq q := List.forall_mem_cons.mpr ⟨lw_p0, List.forall_mem_cons.mpr ⟨lw_p1, List.forall_mem_cons.mpr ⟨lw_p2, List.forall_mem_cons.mpr ⟨lw_p3, List.forall_mem_cons.mpr ⟨lw_p4, List.forall_mem_cons.mpr ⟨lw_p5, List.forall_mem_cons.mpr ⟨lw_p6, List.forall_mem_cons.mpr ⟨lw_p7, List.forall_mem_cons.mpr ⟨lw_p8, List.forall_mem_cons.mpr ⟨lw_p9, List.forall_mem_cons.mpr ⟨lw_p10, List.forall_mem_cons.mpr ⟨lw_p11, List.forall_mem_cons.mpr ⟨lw_p12, List.forall_mem_cons.mpr ⟨lw_p13, List.forall_mem_cons.mpr ⟨lw_p14, List.forall_mem_cons.mpr ⟨lw_p15, fun _ h => absurd h List.not_mem_nil⟩⟩⟩⟩⟩⟩⟩⟩⟩⟩⟩⟩⟩⟩⟩⟩
theorem lw_p16 : lw_okq (⟨"MockBook", "countLiveRules", "()I"⟩, 5) := ⟨⟨by decide +kernel, by decide +kernel⟩, List.mem_of_getElem? (i := 16) (by decide +kernel), List.mem_of_getElem? (i := 434) (by decide +kernel), List.mem_of_getElem? (i := 435) (by decide +kernel)⟩
theorem lw_p17 : lw_okq (⟨"MockBookModel", "note", "(IIII)I"⟩, 24) := ⟨⟨by decide +kernel, by decide +kernel⟩, List.mem_of_getElem? (i := 438) (by decide +kernel), List.mem_of_getElem? (i := 546) (by decide +kernel), List.mem_of_getElem? (i := 547) (by decide +kernel)⟩
theorem lw_p18 : lw_okq (⟨"MockBookModel", "action", "(I)I"⟩, 24) := ⟨⟨by decide +kernel, by decide +kernel⟩, List.mem_of_getElem? (i := 438) (by decide +kernel), List.mem_of_getElem? (i := 550) (by decide +kernel), List.mem_of_getElem? (i := 551) (by decide +kernel)⟩
theorem lw_p19 : lw_okq (⟨"MockBookModel", "ruleFits", "(II)Z"⟩, 24) := ⟨⟨by decide +kernel, by decide +kernel⟩, List.mem_of_getElem? (i := 438) (by decide +kernel), List.mem_of_getElem? (i := 554) (by decide +kernel), List.mem_of_getElem? (i := 555) (by decide +kernel)⟩
theorem lw_p20 : lw_okq (⟨"MockBookModel", "uses", "(II)I"⟩, 24) := ⟨⟨by decide +kernel, by decide +kernel⟩, List.mem_of_getElem? (i := 438) (by decide +kernel), List.mem_of_getElem? (i := 561) (by decide +kernel), List.mem_of_getElem? (i := 562) (by decide +kernel)⟩
theorem lw_p21 : lw_okq (⟨"MockBookModel", "plain", "(II)J"⟩, 24) := ⟨⟨by decide +kernel, by decide +kernel⟩, List.mem_of_getElem? (i := 438) (by decide +kernel), List.mem_of_getElem? (i := 565) (by decide +kernel), List.mem_of_getElem? (i := 566) (by decide +kernel)⟩
theorem lw_p22 : lw_okq (⟨"MockBookModel", "asked", "(III)Z"⟩, 24) := ⟨⟨by decide +kernel, by decide +kernel⟩, List.mem_of_getElem? (i := 438) (by decide +kernel), List.mem_of_getElem? (i := 576) (by decide +kernel), List.mem_of_getElem? (i := 577) (by decide +kernel)⟩
def lw_privs_2 : List (MethodName × Nat) := [(⟨"MockBook", "countLiveRules", "()I"⟩, 5), (⟨"MockBookModel", "note", "(IIII)I"⟩, 24), (⟨"MockBookModel", "action", "(I)I"⟩, 24), (⟨"MockBookModel", "ruleFits", "(II)Z"⟩, 24), (⟨"MockBookModel", "uses", "(II)I"⟩, 24), (⟨"MockBookModel", "plain", "(II)J"⟩, 24), (⟨"MockBookModel", "asked", "(III)Z"⟩, 24)]
theorem lw_r2 : ∀ q ∈ lw_privs_2, lw_okq q := List.forall_mem_cons.mpr ⟨lw_p16, List.forall_mem_cons.mpr ⟨lw_p17, List.forall_mem_cons.mpr ⟨lw_p18, List.forall_mem_cons.mpr ⟨lw_p19, List.forall_mem_cons.mpr ⟨lw_p20, List.forall_mem_cons.mpr ⟨lw_p21, List.forall_mem_cons.mpr ⟨lw_p22, fun _ h => absurd h List.not_mem_nil⟩⟩⟩⟩⟩⟩⟩
def lw_privs : List (MethodName × Nat) := lw_privs_1 ++ (lw_privs_2)
def lw_tbl : List Cond := k2_sels lw_privs ++ tables_1
theorem lw_privs_ok : ∀ q ∈ lw_privs, lw_okq q := by
  show ∀ q ∈ lw_privs_1 ++ (lw_privs_2), lw_okq q
  exact List.forall_mem_append.mpr ⟨lw_r1, lw_r2⟩
end
section
/-! A world by names: every cell that matters has a name (a pair of numbers); A says at which address it lies and what it holds. Distinct names lie apart; what may be written lies from b on. -/
abbrev gN : Type := Nat × Nat
abbrev gW : Type := gN → Option (Nat × va_E)
def gU (A : gW) (n : gN) (x : Nat × va_E) : gW := fun k => if k = n then some x else A k
theorem gU_s {A : gW} {n : gN} {x : Nat × va_E} : gU A n x n = some x := if_pos rfl
theorem gU_n {A : gW} {n k : gN} {x : Nat × va_E} (h : k ≠ n) : gU A n x k = A k := if_neg h
/-- the empty row of references, which nobody can write -/
def gE (cA : ClassId) : va_E := .inl (cA, 0, .inr (.inr (.inr (.inr fun _ => none))))
/-- a cell as the world has it; of the empty row it is enough to know its class and that it is empty -/
def gat (D : va_G) (cl : List vw_C) (q : Nat × va_E) (H : Heap) : Prop := va_at D cl q H ∨ ∃ (cA : ClassId) (c : Cell), q.2 = gE cA ∧ H[q.1]? = some c ∧ c.cls = cA ∧ c.slots.size = 0 ∧ ∀ k, c.vm ≠ .statics k
theorem gat.kept {D : va_G} {cl : List vw_C} {q : Nat × va_E} {H H1 : Heap} (h : gat D cl q H) (hq : H1[q.1]? = H[q.1]?) : gat D cl q H1 := by
  rcases h with h | ⟨cA, c, h1, h2, h3⟩
  · exact Or.inl (h.kept hq)
  · exact Or.inr ⟨cA, c, h1, hq.trans h2, h3⟩
theorem gat.lt {D : va_G} {cl : List vw_C} {q : Nat × va_E} {H : Heap} (h : gat D cl q H) : q.1 < H.size := by
  rcases h with h | ⟨cA, c, h1, h2, h3⟩
  · exact h.lt
  · exact (Array.getElem?_eq_some_iff.mp h2).1
theorem gEo (o : Nat × List Value) : ∀ cA, (.inr o : va_E) ≠ gE cA := fun cA z => by unfold gE at z; cases z
theorem gEi {cB : ClassId} {k : Nat} {f : Nat → Int32} : ∀ cA, (.inl (cB, k, .inl f) : va_E) ≠ gE cA := fun cA z => by unfold gE at z; cases z
theorem gEl {cB : ClassId} {k : Nat} {f : Nat → Int64} : ∀ cA, (.inl (cB, k, .inr (.inl f)) : va_E) ≠ gE cA := fun cA z => by unfold gE at z; cases z
theorem gEq {cB : ClassId} {k : Nat} {f : Nat → Option Nat} (hk : 0 < k) : ∀ cA, (.inl (cB, k, .inr (.inr (.inr (.inr f)))) : va_E) ≠ gE cA := fun cA z => by
  unfold gE at z
  injection z with z
  injection z with z1 z2
  injection z2 with z3 z4
  omega
def gP (D : va_G) (cl : List vw_C) (b : Nat) (A : gW) (H : Heap) : Prop :=
  b ≤ H.size ∧ (∀ (n : gN) (a : Nat) (x : va_E), A n = some (a, x) → gat D cl (a, x) H ∧ (b ≤ a ∨ ∃ cA, x = gE cA)) ∧
  ∀ (n k : gN) (a : Nat) (x y : va_E), A n = some (a, x) → A k = some (a, y) → n = k
theorem gP.va {D : va_G} {cl : List vw_C} {b : Nat} {A : gW} {H : Heap} (h : gP D cl b A H) {n : gN} {a : Nat} {x : va_E} (hn : A n = some (a, x)) (hx : ∀ cA, x ≠ gE cA) : va_at D cl (a, x) H := by
  rcases (h.2.1 n a x hn).1 with g | ⟨cA, c, g, -⟩
  · exact g
  · exact absurd g (hx cA)
theorem gP.oneX {D : va_G} {cl : List vw_C} {b : Nat} {A : gW} {H : Heap} (h : gP D cl b A H) {n : gN} {a : Nat} {x : va_E} (hn : A n = some (a, x)) (hx : ∀ cA, x ≠ gE cA) : va_P D cl [(a, x)] H := by
  intro k q hk
  cases k with
  | zero =>
    cases hk
    exact h.va hn hx
  | succ k => simp at hk
theorem gP.one {D : va_G} {cl : List vw_C} {b : Nat} {A : gW} {H : Heap} (h : gP D cl b A H) {n : gN} {a : Nat} {x : Nat × List Value} (hn : A n = some (a, .inr x)) : va_P D cl [(a, .inr x)] H := h.oneX hn (gEo x)
theorem gP.two {D : va_G} {cl : List vw_C} {b : Nat} {A : gW} {H : Heap} (h : gP D cl b A H) {n n' : gN} {a a' : Nat} {x x' : va_E} (hn : A n = some (a, x)) (hn' : A n' = some (a', x')) (hx : ∀ cA, x ≠ gE cA) (hx' : ∀ cA, x' ≠ gE cA) : va_P D cl [(a, x), (a', x')] H := by
  intro k q hk
  match k, hk with
  | 0, hk =>
    cases hk
    exact h.va hn hx
  | 1, hk =>
    cases hk
    exact h.va hn' hx'
  | k + 2, hk => simp at hk
theorem gP.lt {D : va_G} {cl : List vw_C} {b : Nat} {A : gW} {H : Heap} (h : gP D cl b A H) {n : gN} {a : Nat} {x : va_E} (hn : A n = some (a, x)) : a < H.size := (h.2.1 n a x hn).1.lt
theorem gP.ob {D : va_G} {cl : List vw_C} {b : Nat} {A : gW} {H : Heap} (h : gP D cl b A H) {n : gN} {a : Nat} {x : Nat × List Value} (hn : A n = some (a, .inr x)) : b ≤ a := by
  rcases (h.2.1 n a _ hn).2 with g | ⟨cA, g⟩
  · exact g
  · exact absurd g (fun z => by unfold gE at z; cases z)
theorem gP.ia {D : va_G} {cl : List vw_C} {b : Nat} {A : gW} {H : Heap} (h : gP D cl b A H) {n : gN} {a k : Nat} {cA : ClassId} {f : Nat → Int32} (hn : A n = some (a, .inl (cA, k, .inl f))) : b ≤ a := by
  rcases (h.2.1 n a _ hn).2 with g | ⟨cB, g⟩
  · exact g
  · exact absurd g (fun z => by unfold gE at z; cases z)
theorem gP.la {D : va_G} {cl : List vw_C} {b : Nat} {A : gW} {H : Heap} (h : gP D cl b A H) {n : gN} {a k : Nat} {cA : ClassId} {f : Nat → Int64} (hn : A n = some (a, .inl (cA, k, .inr (.inl f)))) : b ≤ a := by
  rcases (h.2.1 n a _ hn).2 with g | ⟨cB, g⟩
  · exact g
  · exact absurd g (fun z => by unfold gE at z; cases z)
theorem gP.qa {D : va_G} {cl : List vw_C} {b : Nat} {A : gW} {H : Heap} (h : gP D cl b A H) {n : gN} {a k : Nat} {cA : ClassId} {f : Nat → Option Nat} (hn : A n = some (a, .inl (cA, k, .inr (.inr (.inr (.inr f)))))) (hk : 0 < k) : b ≤ a := by
  rcases (h.2.1 n a _ hn).2 with g | ⟨cB, g⟩
  · exact g
  · unfold gE at g
    injection g with g
    injection g with g1 g2
    injection g2 with g3 g4
    omega
theorem gP.set {D : va_G} {cl : List vw_C} {b : Nat} {A : gW} {H H1 : Heap} (h : gP D cl b A H) {n : gN} {a : Nat} {x x' : va_E} (hn : A n = some (a, x)) (hb : b ≤ a) (z : H1.size = H.size) (he : va_at D cl (a, x') H1) (oq : ∀ q : Nat, q ≠ a → H1[q]? = H[q]?) : gP D cl b (gU A n (a, x')) H1 := by
  refine ⟨by rw [z]; exact h.1, fun k y w hk => ?_, fun k j y w v hk hj => ?_⟩
  · by_cases hkn : k = n
    · subst hkn
      rw [gU_s] at hk
      cases hk
      exact ⟨Or.inl he, Or.inl hb⟩
    · rw [gU_n hkn] at hk
      obtain ⟨h1, h2⟩ := h.2.1 k y w hk
      exact ⟨h1.kept (oq y (fun q => hkn (h.2.2 k n y w x hk (by rw [q]; exact hn)))), h2⟩
  · by_cases hkn : k = n
    · by_cases hjn : j = n
      · rw [hkn, hjn]
      · subst hkn
        rw [gU_s] at hk
        rw [gU_n hjn] at hj
        cases hk
        exact absurd (h.2.2 j k a v x hj hn) hjn
    · by_cases hjn : j = n
      · subst hjn
        rw [gU_s] at hj
        rw [gU_n hkn] at hk
        cases hj
        exact absurd (h.2.2 k j a w x hk hn) hkn
      · rw [gU_n hkn] at hk
        rw [gU_n hjn] at hj
        exact h.2.2 k j y w v hk hj
theorem gP.new {D : va_G} {cl : List vw_C} {b : Nat} {A : gW} {H H1 : Heap} (h : gP D cl b A H) (n : gN) {x : va_E} (z : H1.size = H.size + 1) (he : va_at D cl (H.size, x) H1) (o1 : ∀ q : Nat, q < H.size → H1[q]? = H[q]?) : gP D cl b (gU A n (H.size, x)) H1 := by
  refine ⟨by rw [z]; exact Nat.le_succ_of_le h.1, fun k y w hk => ?_, fun k j y w v hk hj => ?_⟩
  · by_cases hkn : k = n
    · subst hkn
      rw [gU_s] at hk
      cases hk
      exact ⟨Or.inl he, Or.inl h.1⟩
    · rw [gU_n hkn] at hk
      obtain ⟨h1, h2⟩ := h.2.1 k y w hk
      exact ⟨h1.kept (o1 y h1.lt), h2⟩
  · by_cases hkn : k = n
    · by_cases hjn : j = n
      · rw [hkn, hjn]
      · subst hkn
        rw [gU_s] at hk
        rw [gU_n hjn] at hj
        cases hk
        exact absurd (h.lt hj) (Nat.lt_irrefl _)
    · by_cases hjn : j = n
      · subst hjn
        rw [gU_s] at hj
        rw [gU_n hkn] at hk
        cases hj
        exact absurd (h.lt hk) (Nat.lt_irrefl _)
      · rw [gU_n hkn] at hk
        rw [gU_n hjn] at hj
        exact h.2.2 k j y w v hk hj
/-- a world that agrees where it is asked -/
theorem gP.sub {D : va_G} {cl : List vw_C} {b : Nat} {A A' : gW} {H : Heap} (h : gP D cl b A H) (hs : ∀ n x, A' n = some x → A n = some x) : gP D cl b A' H :=
  ⟨h.1, fun n a x hn => h.2.1 n a x (hs n _ hn), fun n k a x y hn hk => h.2.2 n k a x y (hs n _ hn) (hs k _ hk)⟩
theorem gP.apart {D : va_G} {cl : List vw_C} {b : Nat} {A : gW} {H : Heap} (h : gP D cl b A H) {n k : gN} {a a' : Nat} {x y : va_E} (hn : A n = some (a, x)) (hk : A k = some (a', y)) (hne : n ≠ k) : a ≠ a' := fun e => hne (h.2.2 n k a x y hn (by rw [e]; exact hk))
abbrev gS (b : Nat) (H0 H : Heap) (locs : List Loc) : Prop := va_S (fun q => b ≤ q) H0 H locs
theorem gS.new {b : Nat} {H0 H H1 : Heap} {locs : List Loc} (h : gS b H0 H locs) (z : H1.size = H.size + 1) (o1 : ∀ q : Nat, q < H.size → H1[q]? = H[q]?) : gS b H0 H1 locs :=
  ⟨Nat.le_trans h.1 (by omega), fun q h1 h2 => (o1 q (Nat.lt_of_lt_of_le h1 h.1)).trans (h.2.1 q h1 h2), h.2.2⟩
section GL
variable {p : Program} {l : Launch} {e : Env} {R : Room} {s : State} {m : MethodId} {args : Array Value} {below : List Frame} {meth : Method} {c : Code} {H : Heap} {locs : List Loc} {cells slots : Nat} {Q : State → Prop}
variable {cc : ByteArray} {pc : Nat} {ls : Array Slot} {rest : List Value} {D : va_G} {cl : List vw_C} {a b : Nat} {tys : List (ClassId × FieldType)} {A : gW} {H0 : Heap}
theorem g_get (hexec : p.tables.exec = Jvm.exec) (hb : c.code = cc) {own ref C : String} {T : u_T} {N ci index : Nat} {Ts : List Cond} (hts : ∀ w ∈ Ts, w.before args s = true) (hin : ∀ w ∈ u_ws C T N, w ∈ Ts) (hown : s.vm.findClass own = some m.cls) (hK : va_K D cl tys s) (hP : gP D cl b A H) {n : gN} {fs : List Value} (he : A n = some (a, .inr (ci, fs))) (hc : cl[ci]? = some (C, T, N)) (k : Nat) (hk : k < N) (hlink : (Cond.fieldLink own index ref (T k).2.1 (T k).2.2.1).before args s = true) (hsame : ∀ x, s.fieldFound? (T k).1 (T k).2.1 (T k).2.2.1 = some x → s.fieldFound? ref (T k).2.1 (T k).2.2.1 = some x) {v : Value} (hv : fs[k]? = some v) (hdg : decode cc pc = .ok (.getfield index, 3))
    (kk : W p l e R s m args below meth c H locs cells slots Q (F0 m (pc + 3) ls (v :: rest))) : W p l e R s m args below meth c H locs cells slots Q (F0 m pc ls (.ref a :: rest)) :=
  va_get hexec hb hts hin hown hK (hP.one he) 0 rfl hc k hk hlink hsame hv hdg kk
theorem g_put (hexec : p.tables.exec = Jvm.exec) (hb : c.code = cc) {own ref C : String} {T : u_T} {N ci index : Nat} {Ts : List Cond} (hts : ∀ w ∈ Ts, w.before args s = true) (hin : ∀ w ∈ u_ws C T N, w ∈ Ts) (ty0 : Nat → FieldType) (hty : ∀ k, k < N → parseFieldDescriptor (T k).2.2.1 = some (ty0 k)) (hnm : ∀ a, a < N → ∀ b, b < N → a ≠ b → (T a).2.1 ≠ (T b).2.1) (hown : s.vm.findClass own = some m.cls) (hK : va_K D cl tys s) (hP : gP D cl b A H) (hS0 : gS b H0 H locs) {n : gN} {fs : List Value} (he : A n = some (a, .inr (ci, fs))) (hc : cl[ci]? = some (C, T, N)) (k : Nat) (hk : k < N) (hlink : (Cond.fieldLink own index ref (T k).2.1 (T k).2.2.1).before args s = true) (hsame : ∀ x, s.fieldFound? (T k).1 (T k).2.1 (T k).2.2.1 = some x → s.fieldFound? ref (T k).2.1 (T k).2.2.1 = some x) (hfin : (T k).2.2.2 = false) {ty : FieldType} {v : Value} (hd : parseFieldDescriptor (T k).2.2.1 = some ty) (hn : narrow ty v = v) (hfit : fits ty v = true) (hl : k < fs.length)
    (hdg : decode cc pc = .ok (.putfield index, 3)) (kk : ∀ (H1 : Heap) (locs1 : List Loc), gP D cl b (gU A n (a, .inr (ci, fs.set k v))) H1 → gS b H0 H1 locs1 → W p l e R s m args below meth c H1 locs1 cells slots Q (F0 m (pc + 3) ls rest)) : W p l e R s m args below meth c H locs cells slots Q (F0 m pc ls (v :: .ref a :: rest)) := by
  have hap := va_apart (own := own) hts hin ty0 hty hnm hK hc
  have hba : b ≤ a := hP.ob he
  obtain ⟨r, h1, cell, q1, q2, q3, q4⟩ := hP.va he (gEo _)
  have hr : r = (C, T, N) := Option.some.inj (h1.symm.trans hc)
  subst hr
  obtain ⟨hS, hfc, kC, hkC, hkind⟩ := hK.1 ci _ hc
  obtain ⟨cf, kf, fi, f, hi, hsl⟩ := hS k hk
  have hlay := hts _ (hin _ (u_in_lay hk))
  unfold u_lay at hlay
  rw [if_neg (by rw [hfin]; decide)] at hlay
  have hst := (u_facts hfc hkC (u_lays hts hin hk) hi).1
  have h6 := u_store hfc hkC hkind hlay hi hd hn hfit
  refine W.putK hexec hb (f := f) ⟨hown, hlink, ⟨_, _, _, hsame _ hi⟩, hst⟩ (by rw [q2]; exact h6) q1 q3 (by rw [hsl]; exact k2_hasslot (q4 k hk)) rfl rfl hdg fun H' e1 e2 e3 => ?_
  rw [hsl] at e1 ⊢
  exact kk H' _ (hP.set he hba e2 ⟨_, hc, t_OB.to (V := updV (vp_V fs) k v) ⟨_, e1, q2, q3, t_set q4 hap hk v⟩ (fun j _ => vp_updV_set hl v j)⟩ e3) (hS0.put e2 e3 hba)
theorem g_putF (hexec : p.tables.exec = Jvm.exec) (hb : c.code = cc) {own ref C : String} {T : u_T} {N ci index : Nat} {Ts : List Cond} (hts : ∀ w ∈ Ts, w.before args s = true) (hin : ∀ w ∈ u_ws C T N, w ∈ Ts) (ty0 : Nat → FieldType) (hty : ∀ k, k < N → parseFieldDescriptor (T k).2.2.1 = some (ty0 k)) (hnm : ∀ a, a < N → ∀ b, b < N → a ≠ b → (T a).2.1 ≠ (T b).2.1) (hown : s.vm.findClass own = some m.cls) (hK : va_K D cl tys s) (hP : gP D cl b A H) (hS0 : gS b H0 H locs) {n : gN} {fs : List Value} (he : A n = some (a, .inr (ci, fs))) (hc : cl[ci]? = some (C, T, N)) (k : Nat) (hk : k < N) (hlink : (Cond.fieldLink own index ref (T k).2.1 (T k).2.2.1).before args s = true) (hsame : ∀ x, s.fieldFound? (T k).1 (T k).2.1 (T k).2.2.1 = some x → s.fieldFound? ref (T k).2.1 (T k).2.2.1 = some x) (hfin : (T k).2.2.2 = true) (hin2 : meth.name = "<init>") (hdecl : (T k).1 = own) {ty : FieldType} {v : Value} (hd : parseFieldDescriptor (T k).2.2.1 = some ty) (hn : narrow ty v = v) (hfit : fits ty v = true) (hl : k < fs.length)
    (hdg : decode cc pc = .ok (.putfield index, 3)) (kk : ∀ (H1 : Heap) (locs1 : List Loc), gP D cl b (gU A n (a, .inr (ci, fs.set k v))) H1 → gS b H0 H1 locs1 → W p l e R s m args below meth c H1 locs1 cells slots Q (F0 m (pc + 3) ls rest)) : W p l e R s m args below meth c H locs cells slots Q (F0 m pc ls (v :: .ref a :: rest)) := by
  have hap := va_apart (own := own) hts hin ty0 hty hnm hK hc
  have hba : b ≤ a := hP.ob he
  obtain ⟨r, h1, cell, q1, q2, q3, q4⟩ := hP.va he (gEo _)
  have hr : r = (C, T, N) := Option.some.inj (h1.symm.trans hc)
  subst hr
  obtain ⟨hS, hfc, kC, hkC, hkind⟩ := hK.1 ci _ hc
  obtain ⟨cf, kf, fi, f, hi, hsl⟩ := hS k hk
  have hlay := hts _ (hin _ (u_in_lay hk))
  unfold u_lay at hlay
  rw [if_pos hfin] at hlay
  have hst := (u_facts hfc hkC (u_lays hts hin hk) hi).1
  have hcf : m.cls = cf := by
    obtain ⟨_, _, c', _, _, _, -, -, hf', -, -, -, hown2, -⟩ := Cond.laysFinal_spec hlay
    have e1 : c' = cf := by have := hi.symm.trans hf'; simp at this; exact this.1.symm
    rw [hdecl] at hown2
    rw [← e1]; exact Option.some.inj (hown.symm.trans hown2)
  have h6 := u_fits hfc hkC hkind (Or.inr hlay) hi hd hn hfit
  refine W.putFinK hexec hb hown hlink (hsame _ hi) hst hcf hin2 (by rw [q2]; exact h6) q1 q3 (by rw [hsl]; exact k2_hasslot (q4 k hk)) rfl rfl hdg fun H' e1 e2 e3 => ?_
  rw [hsl] at e1 ⊢
  exact kk H' _ (hP.set he hba e2 ⟨_, hc, t_OB.to (V := updV (vp_V fs) k v) ⟨_, e1, q2, q3, t_set q4 hap hk v⟩ (fun j _ => vp_updV_set hl v j)⟩ e3) (hS0.put e2 e3 hba)
theorem g_new {c0 : Code} (hexec : p.tables.exec = Jvm.exec) (hb : c0.code = cc) {own C : String} {T : u_T} {N ci index : Nat} {Ts : List Cond} (hts : ∀ w ∈ Ts, w.before args s = true) (hin : ∀ w ∈ u_ws C T N, w ∈ Ts) (ty : Nat → FieldType) (hty : ∀ k, k < N → parseFieldDescriptor (T k).2.2.1 = some (ty k)) (hown : s.vm.findClass own = some m.cls) (hcl : (Cond.classLink own index C).before args s = true) (hinst : (Cond.instantiable C N).before args s = true) (hini : (Cond.initialized C).before args s = true)
    (hK : va_K D cl tys s) (hP : gP D cl b A H) (hS : gS b H0 H locs) (n : gN) (hc : cl[ci]? = some (C, T, N)) {fs : List Value} (hfs : ∀ j, j < N → defaultValue (ty j) = vp_V fs j) (hcells : cells + 1 ≤ R.cells) (hslots : slots + N ≤ R.slots) (hdg : decode cc pc = .ok (.new index, 3))
    (kk : ∀ (q : Nat) (H1 : Heap), gP D cl b (gU A n (q, .inr (ci, fs))) H1 → gS b H0 H1 locs →
      W p l e R s m args below meth c0 H1 locs (cells + 1) (slots + N) Q (F0 m (pc + 3) ls (.ref q :: rest))) : W p l e R s m args below meth c0 H locs cells slots Q (F0 m pc ls rest) := by
  have hKn := hK.1 ci _ hc
  refine W.newcK hexec hb hown hcl hinst hini rfl hdg hcells hslots hKn.2.1 rfl fun H1 kC hkC e1 z1 o1 => ?_
  exact kk H.size H1 (hP.new n z1 ⟨_, hc, (u_born ty hts hin hKn hkC e1 hty).to hfs⟩ o1) (hS.new z1 o1)
theorem g_newa (hexec : p.tables.exec = Jvm.exec) (hb : c.code = cc) {atype : ArrayType} (harr : (Cond.arrayClass (newarray.typeOf atype)).before args s = true) {ty : FieldType} (hty : newarray.typeOf atype = ty) (hK : va_K D cl tys s) (hP : gP D cl b A H) (hS : gS b H0 H locs) (n : gN) {cA : ClassId} (hnm : s.vm.findClass ("[" ++ ty.toString) = some cA)
    {z : Int32} {N' : Nat} {a0 : vp_A} (ha : vp_cell cA a0 = arrV cA N' (fun _ => defaultValue ty)) (hz : ¬ z < 0) (hN : z.toNatClampNeg = N') (hbytes : N' * componentBytes ty ≤ 536870912) (hcells : cells + 1 ≤ R.cells) (hslots : slots + N' ≤ R.slots) (hdg : decode cc pc = .ok (.newarray atype, 2))
    (kk : ∀ (q : Nat) (H1 : Heap), gP D cl b (gU A n (q, .inl (cA, a0))) H1 → gS b H0 H1 locs →
      W p l e R s m args below meth c H1 locs (cells + 1) (slots + N') Q (F0 m (pc + 2) ls (.ref q :: rest))) : W p l e R s m args below meth c H locs cells slots Q (F0 m pc ls (.int z :: rest)) := by
  subst hty
  refine va_newaK hexec hb harr rfl hdg rfl hz hN hbytes hcells hslots rfl fun H1 cB e1 z1 o1 hAr hNm => ?_
  have hcc : cB = cA := Option.some.inj (hNm.symm.trans hnm)
  subst hcc
  refine kk H.size H1 (hP.new n z1 ?_ o1) (hS.new z1 o1)
  show H1[H.size]? = some (vp_cell _ _)
  rw [ha]
  exact e1
theorem g_newq (hexec : p.tables.exec = Jvm.exec) (hb : c.code = cc) {own C : String} {index : Nat} (hown : s.vm.findClass own = some m.cls) (hclink : (Cond.classLink own index C).before args s = true) (hover : va_AO C s) (hP : gP D cl b A H) (hS : gS b H0 H locs) (n : gN) {cA : ClassId} (hnm : s.vm.findClass ("[" ++ (FieldType.object C).toString) = some cA)
    {z : Int32} {N' : Nat} (hz : ¬ z < 0) (hN : z.toNatClampNeg = N') (hbytes : N' * 4 ≤ 536870912) (hcells : cells + 1 ≤ R.cells) (hslots : slots + N' ≤ R.slots) (hdg : decode cc pc = .ok (.anewarray index, 3))
    (kk : ∀ (q : Nat) (H1 : Heap), gP D cl b (gU A n (q, .inl (cA, N', .inr (.inr (.inr (.inr (fun _ => none))))))) H1 → gS b H0 H1 locs → (∀ x : Nat, x < H.size → H1[x]? = H[x]?) → H1.size = H.size + 1 → q = H.size →
      W p l e R s m args below meth c H1 locs (cells + 1) (slots + N') Q (F0 m (pc + 3) ls (.ref q :: rest))) : W p l e R s m args below meth c H locs cells slots Q (F0 m pc ls (.int z :: rest)) := by
  subst hN
  refine W.anew hexec hb hown hclink (va_AO.use hover) rfl hdg rfl hz hbytes hcells hslots fun cB kA comp f1 f2 f3 f4 => ?_
  have hcc : cB = cA := Option.some.inj (f1.symm.trans hnm)
  subst hcc
  generalize hH1 : H.push ({ cls := cB, slots := Array.replicate z.toNatClampNeg .null, vm := .none } : Cell) = H1
  have z1 : H1.size = H.size + 1 := by rw [← hH1, Array.size_push]
  have e1 : H1[H.size]? = some (arrV cB z.toNatClampNeg (fun _ => .null)) := by rw [← hH1, Array.getElem?_push_size, ← arrV_new]
  have o1 : ∀ q : Nat, q < H.size → H1[q]? = H[q]? := fun q hq => by rw [← hH1, Array.getElem?_push, if_neg (Nat.ne_of_lt hq)]
  refine kk H.size H1 (hP.new n z1 ?_ o1) (hS.new z1 o1) o1 z1 rfl
  show H1[H.size]? = some (vp_cell _ _)
  rw [vp_cell_q]
  exact e1
theorem g_iald (hexec : p.tables.exec = Jvm.exec) (hb : c.code = cc) (hK : va_K D cl tys s) (hP : gP D cl b A H) (t0 : Nat) {n : gN} {cA : ClassId} {N : Nat} {f : Nat → Int32} (ha : A n = some (a, .inl (cA, N, .inl f))) (ht : tys[t0]? = some (cA, .int)) {i v : Int32} (hin : vp_in i N) (hv : f i.toNatClampNeg = v) (hdg : decode cc pc = .ok (.iaload, 1))
    (kk : W p l e R s m args below meth c H locs cells slots Q (F0 m (pc + 1) ls (.int v :: rest))) : W p l e R s m args below meth c H locs cells slots Q (F0 m pc ls (.int i :: .ref a :: rest)) :=
  va_iald hexec hb hK (hP.oneX ha gEi) 0 t0 rfl ht hin hdg (by rw [hv]; exact kk)
theorem g_zald (hexec : p.tables.exec = Jvm.exec) (hb : c.code = cc) (hK : va_K D cl tys s) (hP : gP D cl b A H) (t0 : Nat) {n : gN} {cA : ClassId} {N : Nat} {f : Nat → Int32} (ha : A n = some (a, .inl (cA, N, .inl f))) (ht : tys[t0]? = some (cA, .boolean)) {i v : Int32} (hin : vp_in i N) (hv : f i.toNatClampNeg = v) (hdg : decode cc pc = .ok (.baload, 1))
    (kk : W p l e R s m args below meth c H locs cells slots Q (F0 m (pc + 1) ls (.int v :: rest))) : W p l e R s m args below meth c H locs cells slots Q (F0 m pc ls (.int i :: .ref a :: rest)) :=
  va_zald hexec hb hK (hP.oneX ha gEi) 0 t0 rfl ht hin hdg (by rw [hv]; exact kk)
theorem g_lald (hexec : p.tables.exec = Jvm.exec) (hb : c.code = cc) (hK : va_K D cl tys s) (hP : gP D cl b A H) (t0 : Nat) {n : gN} {cA : ClassId} {N : Nat} {f : Nat → Int64} (ha : A n = some (a, .inl (cA, N, .inr (.inl f)))) (ht : tys[t0]? = some (cA, .long)) {i : Int32} {v : Int64} (hin : vp_in i N) (hv : f i.toNatClampNeg = v) (hdg : decode cc pc = .ok (.laload, 1))
    (kk : W p l e R s m args below meth c H locs cells slots Q (F0 m (pc + 1) ls (.long v :: rest))) : W p l e R s m args below meth c H locs cells slots Q (F0 m pc ls (.int i :: .ref a :: rest)) :=
  va_lald hexec hb hK (hP.oneX ha gEl) 0 t0 rfl ht hin hdg (by rw [hv]; exact kk)
theorem g_aald (hexec : p.tables.exec = Jvm.exec) (hb : c.code = cc) (hK : va_K D cl tys s) (hP : gP D cl b A H) (t0 : Nat) {n : gN} {cA : ClassId} {C : String} {N : Nat} {f : Nat → Option Nat} (ha : A n = some (a, .inl (cA, N, .inr (.inr (.inr (.inr f)))))) (ht : tys[t0]? = some (cA, .object C)) {i : Int32} {v : Value} (hin : vp_in i N) (hv : va_rf (f i.toNatClampNeg) = v) (hdg : decode cc pc = .ok (.aaload, 1))
    (kk : W p l e R s m args below meth c H locs cells slots Q (F0 m (pc + 1) ls (v :: rest))) : W p l e R s m args below meth c H locs cells slots Q (F0 m pc ls (.int i :: .ref a :: rest)) :=
  va_aldq hexec hb hK (hP.oneX ha (gEq (by unfold vp_in at hin; omega))) 0 t0 rfl ht hin hdg (by rw [hv]; exact kk)
theorem g_alen (hexec : p.tables.exec = Jvm.exec) (hb : c.code = cc) (hK : va_K D cl tys s) (hP : gP D cl b A H) (t0 : Nat) {n : gN} {cA : ClassId} {x : vp_A} (ha : A n = some (a, .inl (cA, x))) {ty : FieldType} (ht : tys[t0]? = some (cA, ty)) {v : Int32} (hv : Int32.ofNat x.1 = v) (hdg : decode cc pc = .ok (.arraylength, 1))
    (kk : W p l e R s m args below meth c H locs cells slots Q (F0 m (pc + 1) ls (.int v :: rest))) : W p l e R s m args below meth c H locs cells slots Q (F0 m pc ls (.ref a :: rest)) :=
  (hP.2.1 n a _ ha).1.elim (fun g => va_alen (ws := [(a, .inl (cA, x))]) hexec hb hK (fun k q hk => by cases k with | zero => cases hk; exact g | succ k => simp at hk) 0 t0 rfl ht hv hdg kk) (fun g => by
    obtain ⟨cB, cell, g1, g2, g3, g4, g5⟩ := g
    have hx0 : cA = cB ∧ x.1 = 0 := by
      unfold gE at g1
      injection g1 with g1
      injection g1 with z1 z2
      exact ⟨z1, by rw [z2]⟩
    obtain ⟨-, kk2, hk2, hk3⟩ := (hK.2 t0 _ ht).1 0 (fun _ => .null)
    refine W.alen (n := v) (ty := ty) hexec hb g2 ⟨g5, kk2, ?_, hk3⟩ (by rw [g4, ← hv, hx0.2]; rfl) rfl rfl hdg kk
    rw [g3, ← hx0.1]
    exact hk2)
theorem g_iast (hexec : p.tables.exec = Jvm.exec) (hb : c.code = cc) (hK : va_K D cl tys s) (hP : gP D cl b A H) (hS : gS b H0 H locs) (t0 : Nat) {n : gN} {cA : ClassId} {N : Nat} {f : Nat → Int32} (ha : A n = some (a, .inl (cA, N, .inl f))) (ht : tys[t0]? = some (cA, .int)) {i x : Int32} {k : Nat} (hin : vp_in i N) (hk : i.toNatClampNeg = k) (hdg : decode cc pc = .ok (.iastore, 1))
    (kk : ∀ (H1 : Heap) (locs1 : List Loc), gP D cl b (gU A n (a, .inl (cA, N, .inl (upd f k x)))) H1 → gS b H0 H1 locs1 → W p l e R s m args below meth c H1 locs1 cells slots Q (F0 m (pc + 1) ls rest)) : W p l e R s m args below meth c H locs cells slots Q (F0 m pc ls (.int x :: .int i :: .ref a :: rest)) := by
  subst hk
  have hba : b ≤ a := hP.ia ha
  refine W.iast hexec hb (hP.va ha gEi) ((hK.2 t0 _ ht).1 N (fun j => .int (f j))) (fun q => by cases q) (by show ¬ (i < 0 ∨ (arrV _ _ _).slots.size ≤ _); rw [arrV_size]; exact hin) rfl rfl hdg fun H1 e1 z oq => ?_
  refine kk H1 _ (hP.set ha hba z ?_ oq) (hS.put z oq hba)
  show H1[a]? = some (vp_cell _ _)
  rw [e1]
  rw [vp_cell_i, vp_cell_i, arrV_store]
  congr 2
  funext q
  by_cases hq : q = i.toNatClampNeg
  · subst hq
    simp [updV, upd]
  · simp [updV, upd, hq]
theorem g_last (hexec : p.tables.exec = Jvm.exec) (hb : c.code = cc) (hK : va_K D cl tys s) (hP : gP D cl b A H) (hS : gS b H0 H locs) (t0 : Nat) {n : gN} {cA : ClassId} {N : Nat} {f : Nat → Int64} (ha : A n = some (a, .inl (cA, N, .inr (.inl f)))) (ht : tys[t0]? = some (cA, .long)) {i : Int32} {x : Int64} {k : Nat} (hin : vp_in i N) (hk : i.toNatClampNeg = k) (hdg : decode cc pc = .ok (.lastore, 1))
    (kk : ∀ (H1 : Heap) (locs1 : List Loc), gP D cl b (gU A n (a, .inl (cA, N, .inr (.inl (vp_updL f k x))))) H1 → gS b H0 H1 locs1 → W p l e R s m args below meth c H1 locs1 cells slots Q (F0 m (pc + 1) ls rest)) : W p l e R s m args below meth c H locs cells slots Q (F0 m pc ls (.long x :: .int i :: .ref a :: rest)) := by
  subst hk
  have hba : b ≤ a := hP.la ha
  refine W.last hexec hb (hP.va ha gEl) ((hK.2 t0 _ ht).1 N (fun j => .long (f j))) (fun q => by cases q) (by show ¬ (i < 0 ∨ (arrV _ _ _).slots.size ≤ _); rw [arrV_size]; exact hin) rfl rfl hdg fun H1 e1 z oq => ?_
  refine kk H1 _ (hP.set ha hba z ?_ oq) (hS.put z oq hba)
  show H1[a]? = some (vp_cell _ _)
  rw [e1]
  rw [vp_cell_l, vp_cell_l, arrV_store]
  congr 2
  funext q
  by_cases hq : q = i.toNatClampNeg
  · subst hq
    simp [updV, vp_updL]
  · simp [updV, vp_updL, hq]
theorem g_zast (hexec : p.tables.exec = Jvm.exec) (hb : c.code = cc) (hK : va_K D cl tys s) (hP : gP D cl b A H) (hS : gS b H0 H locs) (t0 : Nat) {n : gN} {cA : ClassId} {N : Nat} {f : Nat → Int32} (ha : A n = some (a, .inl (cA, N, .inl f))) (ht : tys[t0]? = some (cA, .boolean)) {i x : Int32} {k : Nat} (hin : vp_in i N) (hk : i.toNatClampNeg = k) (hnar : narrow .boolean (.int x) = .int x) (hdg : decode cc pc = .ok (.bastore, 1))
    (kk : ∀ (H1 : Heap) (locs1 : List Loc), gP D cl b (gU A n (a, .inl (cA, N, .inl (upd f k x)))) H1 → gS b H0 H1 locs1 → W p l e R s m args below meth c H1 locs1 cells slots Q (F0 m (pc + 1) ls rest)) : W p l e R s m args below meth c H locs cells slots Q (F0 m pc ls (.int x :: .int i :: .ref a :: rest)) := by
  subst hk
  have hba : b ≤ a := hP.ia ha
  refine W.zast hexec hb (hP.va ha gEi) ((hK.2 t0 _ ht).1 N (fun j => .int (f j))) (fun q => by cases q) (by show ¬ (i < 0 ∨ (arrV _ _ _).slots.size ≤ _); rw [arrV_size]; exact hin) rfl rfl hdg fun H1 e1 z oq => ?_
  refine kk H1 _ (hP.set ha hba z ?_ oq) (hS.put z oq hba)
  show H1[a]? = some (vp_cell _ _)
  rw [e1, hnar]
  rw [vp_cell_i, vp_cell_i, arrV_store]
  congr 2
  funext q
  by_cases hq : q = i.toNatClampNeg
  · subst hq
    simp [updV, upd]
  · simp [updV, upd, hq]
theorem g_aast (hexec : p.tables.exec = Jvm.exec) (hb : c.code = cc) (hK : va_K D cl tys s) (hP : gP D cl b A H) (hS : gS b H0 H locs) (t0 : Nat) {n : gN} {E : String} {cA : ClassId} {N v : Nat} {f : Nat → Option Nat} (ha : A n = some (a, .inl (cA, N, .inr (.inr (.inr (.inr f)))))) (ht : tys[t0]? = some (cA, .object E)) (hr : va_Any E s H v) {i : Int32} {k : Nat} (hin : vp_in i N) (hk : i.toNatClampNeg = k) (hdg : decode cc pc = .ok (.aastore, 1))
    (kk : ∀ (H1 : Heap) (locs1 : List Loc), gP D cl b (gU A n (a, .inl (cA, N, .inr (.inr (.inr (.inr (va_up f k (some v)))))))) H1 → gS b H0 H1 locs1 → W p l e R s m args below meth c H1 locs1 cells slots Q (F0 m (pc + 1) ls rest)) : W p l e R s m args below meth c H locs cells slots Q (F0 m pc ls (.ref v :: .int i :: .ref a :: rest)) := by
  subst hk
  have hlt : i.toNatClampNeg < N := Nat.not_le.mp fun q => hin (Or.inr q)
  have h0 : ¬ i < 0 := fun q => hin (Or.inl q)
  have hba : b ≤ a := hP.qa ha (by omega)
  obtain ⟨cellV, g1, g3, ⟨kC, hkC⟩, hasg⟩ := hr
  obtain ⟨kA, comp, k1, k2, k3, -⟩ := (hK.2 t0 _ ht).2
  obtain ⟨kE, hkE, -⟩ := Vm.findClass_spec k3
  refine W.aast hexec hb (hP.va ha (gEq (by omega))) (fun q h => by cases h) (fun h => by cases h) k1 k2 rfl hkE ⟨h0, by show _ < (arrV _ _ _).slots.size; rw [arrV_size]; exact hlt⟩ g1 (fun q h => by rw [h] at g3; cases g3) hkC (hasg _ k3) rfl rfl hdg fun H1 e1 z oq => ?_
  refine kk H1 _ (hP.set ha hba z ?_ oq) (hS.put z oq hba)
  show H1[a]? = some (vp_cell _ _)
  rw [e1]
  rw [vp_cell_q, vp_cell_q, arrV_store]
  congr 2
  funext q
  by_cases hq : q = i.toNatClampNeg
  · subst hq
    simp [updV, va_up, va_rf]
  · simp [updV, va_up, hq]
end GL
section GC
variable {p : Program} {l : Launch} {e : Env} {R : Room} {s : State} {m : MethodId} {args : Array Value} {below : List Frame} {meth : Method} {c : Code} {H : Heap} {locs : List Loc} {cells slots : Nat} {Q : State → Prop}
variable {pc : Nat} {ls : Array Slot} {rest st0 : List Value} {a : Array Value} {b : Nat} {H0 : Heap} {mc ms : Nat}
/-- behind a call that only reads -/
theorem g_ri {post : Int32 → Prop} (hr : va_Run p l e R s m args below meth c H locs cells slots 0 0 (F0 m pc ls st0) rest (vp_Si post a) (fun _ => False))
    (kk : ∀ r : Int32, post r → W p l e R s m args below meth c H locs cells slots Q (F0 m (pc + 3) ls (.int r :: rest))) : W p l e R s m args below meth c H locs cells slots Q (F0 m pc ls st0) := by
  intro T hT X
  obtain ⟨v, st₀, t, T', L, h0, X', hL, e1, e2, ⟨r, hv, hp, hh⟩, st⟩ := hr T hT X
  cases hv
  obtain ⟨t2, a1, b1⟩ := kk r hp T' (by rw [e1, hh, h0]) (Stand.forget X' (fun q h => (hL q h).elim))
  exact ⟨t2, st t2 a1, b1⟩
theorem g_rl {post : Int64 → Prop} (hr : va_Run p l e R s m args below meth c H locs cells slots 0 0 (F0 m pc ls st0) rest (vp_Sl post a) (fun _ => False))
    (kk : ∀ r : Int64, post r → W p l e R s m args below meth c H locs cells slots Q (F0 m (pc + 3) ls (.long r :: rest))) : W p l e R s m args below meth c H locs cells slots Q (F0 m pc ls st0) := by
  intro T hT X
  obtain ⟨v, st₀, t, T', L, h0, X', hL, e1, e2, ⟨r, hv, hp, hh⟩, st⟩ := hr T hT X
  cases hv
  obtain ⟨t2, a1, b1⟩ := kk r hp T' (by rw [e1, hh, h0]) (Stand.forget X' (fun q h => (hL q h).elim))
  exact ⟨t2, st t2 a1, b1⟩
def gSr (r : Nat) : Array Value → State → Outcome → State → Prop := fun _ st o t => o = .returned (some (.ref r)) ∧ t.heap = st.heap
theorem g_rr {r : Nat} (hr : va_Run p l e R s m args below meth c H locs cells slots 0 0 (F0 m pc ls st0) rest (gSr r a) (fun _ => False))
    (kk : W p l e R s m args below meth c H locs cells slots Q (F0 m (pc + 3) ls (.ref r :: rest))) : W p l e R s m args below meth c H locs cells slots Q (F0 m pc ls st0) := by
  intro T hT X
  obtain ⟨v, st₀, t, T', L, h0, X', hL, e1, e2, ⟨hv, hh⟩, st⟩ := hr T hT X
  cases hv
  obtain ⟨t2, a1, b1⟩ := kk T' (by rw [e1, hh, h0]) (Stand.forget X' (fun q h => (hL q h).elim))
  exact ⟨t2, st t2 a1, b1⟩
/-- behind a call that writes: void, int, long, a reference -/
theorem g_cv {S : Type} {post : S → Prop} {B : S → Heap → Prop} (hr : va_Run p l e R s m args below meth c H locs cells slots mc ms (F0 m pc ls st0) rest (va_Qv post (fun u t => B u t.heap) (fun q => b ≤ q) a) (fun q => b ≤ q)) (hS : gS b H0 H locs)
    (kk : ∀ (u : S) (H1 : Heap) (locs1 : List Loc), post u → B u H1 → gS b H0 H1 locs1 → W p l e R s m args below meth c H1 locs1 (cells + mc) (slots + ms) Q (F0 m (pc + 3) ls rest)) : W p l e R s m args below meth c H locs cells slots Q (F0 m pc ls st0) :=
  va_callv hr hS (fun _ _ h => h) (fun _ h => h) (fun u t H1 locs1 ht _ hp hb _ _ hS1 => kk u H1 locs1 hp (ht ▸ hb) hS1)
theorem g_ci {S : Type} {post : Int32 → S → Prop} {B : S → Heap → Prop} (hr : va_Run p l e R s m args below meth c H locs cells slots mc ms (F0 m pc ls st0) rest (va_Qi post (fun u t => B u t.heap) (fun q => b ≤ q) a) (fun q => b ≤ q)) (hS : gS b H0 H locs)
    (kk : ∀ (r : Int32) (u : S) (H1 : Heap) (locs1 : List Loc), post r u → B u H1 → gS b H0 H1 locs1 → W p l e R s m args below meth c H1 locs1 (cells + mc) (slots + ms) Q (F0 m (pc + 3) ls (.int r :: rest))) : W p l e R s m args below meth c H locs cells slots Q (F0 m pc ls st0) :=
  va_calli hr hS (fun _ _ h => h) (fun _ h => h) (fun r u t H1 locs1 ht _ hp hb _ _ hS1 => kk r u H1 locs1 hp (ht ▸ hb) hS1)
theorem g_cl {S : Type} {post : Int64 → S → Prop} {B : S → Heap → Prop} (hr : va_Run p l e R s m args below meth c H locs cells slots mc ms (F0 m pc ls st0) rest (va_Ql post (fun u t => B u t.heap) (fun q => b ≤ q) a) (fun q => b ≤ q)) (hS : gS b H0 H locs)
    (kk : ∀ (r : Int64) (u : S) (H1 : Heap) (locs1 : List Loc), post r u → B u H1 → gS b H0 H1 locs1 → W p l e R s m args below meth c H1 locs1 (cells + mc) (slots + ms) Q (F0 m (pc + 3) ls (.long r :: rest))) : W p l e R s m args below meth c H locs cells slots Q (F0 m pc ls st0) :=
  va_calll hr hS (fun _ _ h => h) (fun _ h => h) (fun r u t H1 locs1 ht _ hp hb _ _ hS1 => kk r u H1 locs1 hp (ht ▸ hb) hS1)
theorem g_cr {S : Type} {post : S → Prop} {B : S → Nat → Heap → Prop} (hr : va_Run p l e R s m args below meth c H locs cells slots mc ms (F0 m pc ls st0) rest (va_Qr post (fun u r t => B u r t.heap) (fun q => b ≤ q) a) (fun q => b ≤ q)) (hS : gS b H0 H locs)
    (kk : ∀ (u : S) (r : Nat) (H1 : Heap) (locs1 : List Loc), post u → B u r H1 → gS b H0 H1 locs1 → W p l e R s m args below meth c H1 locs1 (cells + mc) (slots + ms) Q (F0 m (pc + 3) ls (.ref r :: rest))) : W p l e R s m args below meth c H locs cells slots Q (F0 m pc ls st0) :=
  va_callr hr hS (fun _ _ h => h) (fun _ h => h) (fun u r t H1 locs1 ht _ hp hb _ _ hS1 => kk u r H1 locs1 hp (ht ▸ hb) hS1)
end GC
end
