section
-- ===== PART A: goes FIRST, ahead of the names: the tables' words, and 'selects' of the private methods out of them =====
/-- a private method of a class that the tables say can be made, by its rows of tables_1 -/
def lw_okq (q : MethodName × Nat) : Prop := (q.1.cls ≠ "java/lang/invoke/MethodHandle" ∧ q.1.cls ≠ "java/lang/invoke/VarHandle") ∧ Cond.instantiable q.1.cls q.2 ∈ tables_1 ∧ Cond.privateMethod q.1 ∈ tables_1 ∧ Cond.instanceMethod q.1 ∈ tables_1
theorem lw_p0 : lw_okq (⟨"java/util/ArrayList", "add", "(Ljava/lang/Object;[Ljava/lang/Object;I)V"⟩, 3) := ⟨⟨by decide +kernel, by decide +kernel⟩, List.mem_of_getElem? (i := 24) (by decide +kernel), List.mem_of_getElem? (i := 166) (by decide +kernel), List.mem_of_getElem? (i := 167) (by decide +kernel)⟩
theorem lw_p1 : lw_okq (⟨"java/util/ArrayList", "grow", "()[Ljava/lang/Object;"⟩, 3) := ⟨⟨by decide +kernel, by decide +kernel⟩, List.mem_of_getElem? (i := 24) (by decide +kernel), List.mem_of_getElem? (i := 170) (by decide +kernel), List.mem_of_getElem? (i := 171) (by decide +kernel)⟩
theorem lw_p2 : lw_okq (⟨"java/util/ArrayList", "grow", "(I)[Ljava/lang/Object;"⟩, 3) := ⟨⟨by decide +kernel, by decide +kernel⟩, List.mem_of_getElem? (i := 24) (by decide +kernel), List.mem_of_getElem? (i := 174) (by decide +kernel), List.mem_of_getElem? (i := 175) (by decide +kernel)⟩
theorem lw_p3 : lw_okq (⟨"MockBook", "isRule", "(I)Z"⟩, 5) := ⟨⟨by decide +kernel, by decide +kernel⟩, List.mem_of_getElem? (i := 16) (by decide +kernel), List.mem_of_getElem? (i := 219) (by decide +kernel), List.mem_of_getElem? (i := 220) (by decide +kernel)⟩
theorem lw_p4 : lw_okq (⟨"MockBook", "noteAndRespond", "(IIIIIII)J"⟩, 5) := ⟨⟨by decide +kernel, by decide +kernel⟩, List.mem_of_getElem? (i := 16) (by decide +kernel), List.mem_of_getElem? (i := 259) (by decide +kernel), List.mem_of_getElem? (i := 260) (by decide +kernel)⟩
theorem lw_p5 : lw_okq (⟨"MockBook", "ruleNumberFor", "(LMockBook$Interaction;)I"⟩, 5) := ⟨⟨by decide +kernel, by decide +kernel⟩, List.mem_of_getElem? (i := 16) (by decide +kernel), List.mem_of_getElem? (i := 319) (by decide +kernel), List.mem_of_getElem? (i := 320) (by decide +kernel)⟩
theorem lw_p6 : lw_okq (⟨"MockBook", "respond", "(LMockBook$Interaction;II)J"⟩, 5) := ⟨⟨by decide +kernel, by decide +kernel⟩, List.mem_of_getElem? (i := 16) (by decide +kernel), List.mem_of_getElem? (i := 341) (by decide +kernel), List.mem_of_getElem? (i := 342) (by decide +kernel)⟩
theorem lw_p7 : lw_okq (⟨"MockBook", "pass", "(LMockBook$Interaction;III)J"⟩, 5) := ⟨⟨by decide +kernel, by decide +kernel⟩, List.mem_of_getElem? (i := 16) (by decide +kernel), List.mem_of_getElem? (i := 354) (by decide +kernel), List.mem_of_getElem? (i := 355) (by decide +kernel)⟩
theorem lw_p8 : lw_okq (⟨"MockBook", "countSought", "(II)I"⟩, 5) := ⟨⟨by decide +kernel, by decide +kernel⟩, List.mem_of_getElem? (i := 16) (by decide +kernel), List.mem_of_getElem? (i := 362) (by decide +kernel), List.mem_of_getElem? (i := 363) (by decide +kernel)⟩
theorem lw_p9 : lw_okq (⟨"MockBook", "isSought", "(LMockBook$Interaction;II)Z"⟩, 5) := ⟨⟨by decide +kernel, by decide +kernel⟩, List.mem_of_getElem? (i := 16) (by decide +kernel), List.mem_of_getElem? (i := 366) (by decide +kernel), List.mem_of_getElem? (i := 367) (by decide +kernel)⟩
theorem lw_p10 : lw_okq (⟨"MockBook", "verifySought", "(II)V"⟩, 5) := ⟨⟨by decide +kernel, by decide +kernel⟩, List.mem_of_getElem? (i := 16) (by decide +kernel), List.mem_of_getElem? (i := 374) (by decide +kernel), List.mem_of_getElem? (i := 375) (by decide +kernel)⟩
theorem lw_p11 : lw_okq (⟨"MockBook", "firstSoughtAfterMark", "(II)I"⟩, 5) := ⟨⟨by decide +kernel, by decide +kernel⟩, List.mem_of_getElem? (i := 16) (by decide +kernel), List.mem_of_getElem? (i := 382) (by decide +kernel), List.mem_of_getElem? (i := 383) (by decide +kernel)⟩
theorem lw_p12 : lw_okq (⟨"MockBook", "endRules", "(I)V"⟩, 5) := ⟨⟨by decide +kernel, by decide +kernel⟩, List.mem_of_getElem? (i := 16) (by decide +kernel), List.mem_of_getElem? (i := 402) (by decide +kernel), List.mem_of_getElem? (i := 403) (by decide +kernel)⟩
theorem lw_p13 : lw_okq (⟨"MockBook", "endInteractions", "(I)I"⟩, 5) := ⟨⟨by decide +kernel, by decide +kernel⟩, List.mem_of_getElem? (i := 16) (by decide +kernel), List.mem_of_getElem? (i := 406) (by decide +kernel), List.mem_of_getElem? (i := 407) (by decide +kernel)⟩
theorem lw_p14 : lw_okq (⟨"MockBook", "isInteraction", "(I)Z"⟩, 5) := ⟨⟨by decide +kernel, by decide +kernel⟩, List.mem_of_getElem? (i := 16) (by decide +kernel), List.mem_of_getElem? (i := 414) (by decide +kernel), List.mem_of_getElem? (i := 415) (by decide +kernel)⟩
theorem lw_p15 : lw_okq (⟨"MockBook", "countLiveInteractions", "(Z)I"⟩, 5) := ⟨⟨by decide +kernel, by decide +kernel⟩, List.mem_of_getElem? (i := 16) (by decide +kernel), List.mem_of_getElem? (i := 430) (by decide +kernel), List.mem_of_getElem? (i := 431) (by decide +kernel)⟩
def lw_privs_1 : List (MethodName × Nat) := [(⟨"java/util/ArrayList", "add", "(Ljava/lang/Object;[Ljava/lang/Object;I)V"⟩, 3), (⟨"java/util/ArrayList", "grow", "()[Ljava/lang/Object;"⟩, 3), (⟨"java/util/ArrayList", "grow", "(I)[Ljava/lang/Object;"⟩, 3), (⟨"MockBook", "isRule", "(I)Z"⟩, 5), (⟨"MockBook", "noteAndRespond", "(IIIIIII)J"⟩, 5), (⟨"MockBook", "ruleNumberFor", "(LMockBook$Interaction;)I"⟩, 5), (⟨"MockBook", "respond", "(LMockBook$Interaction;II)J"⟩, 5), (⟨"MockBook", "pass", "(LMockBook$Interaction;III)J"⟩, 5), (⟨"MockBook", "countSought", "(II)I"⟩, 5), (⟨"MockBook", "isSought", "(LMockBook$Interaction;II)Z"⟩, 5), (⟨"MockBook", "verifySought", "(II)V"⟩, 5), (⟨"MockBook", "firstSoughtAfterMark", "(II)I"⟩, 5), (⟨"MockBook", "endRules", "(I)V"⟩, 5), (⟨"MockBook", "endInteractions", "(I)I"⟩, 5), (⟨"MockBook", "isInteraction", "(I)Z"⟩, 5), (⟨"MockBook", "countLiveInteractions", "(Z)I"⟩, 5)]
theorem lw_r1 : ∀ q ∈ lw_privs_1, lw_okq q := List.forall_mem_cons.mpr ⟨lw_p0, List.forall_mem_cons.mpr ⟨lw_p1, List.forall_mem_cons.mpr ⟨lw_p2, List.forall_mem_cons.mpr ⟨lw_p3, List.forall_mem_cons.mpr ⟨lw_p4, List.forall_mem_cons.mpr ⟨lw_p5, List.forall_mem_cons.mpr ⟨lw_p6, List.forall_mem_cons.mpr ⟨lw_p7, List.forall_mem_cons.mpr ⟨lw_p8, List.forall_mem_cons.mpr ⟨lw_p9, List.forall_mem_cons.mpr ⟨lw_p10, List.forall_mem_cons.mpr ⟨lw_p11, List.forall_mem_cons.mpr ⟨lw_p12, List.forall_mem_cons.mpr ⟨lw_p13, List.forall_mem_cons.mpr ⟨lw_p14, List.forall_mem_cons.mpr ⟨lw_p15, fun _ h => absurd h List.not_mem_nil⟩⟩⟩⟩⟩⟩⟩⟩⟩⟩⟩⟩⟩⟩⟩⟩
theorem lw_p16 : lw_okq (⟨"MockBook", "countLiveRules", "()I"⟩, 5) := ⟨⟨by decide +kernel, by decide +kernel⟩, List.mem_of_getElem? (i := 16) (by decide +kernel), List.mem_of_getElem? (i := 434) (by decide +kernel), List.mem_of_getElem? (i := 435) (by decide +kernel)⟩
theorem lw_p17 : lw_okq (⟨"MockBookModel", "note", "(IIII)I"⟩, 24) := ⟨⟨by decide +kernel, by decide +kernel⟩, List.mem_of_getElem? (i := 438) (by decide +kernel), List.mem_of_getElem? (i := 546) (by decide +kernel), List.mem_of_getElem? (i := 547) (by decide +kernel)⟩
theorem lw_p18 : lw_okq (⟨"MockBookModel", "action", "(I)I"⟩, 24) := ⟨⟨by decide +kernel, by decide +kernel⟩, List.mem_of_getElem? (i := 438) (by decide +kernel), List.mem_of_getElem? (i := 550) (by decide +kernel), List.mem_of_getElem? (i := 551) (by decide +kernel)⟩
theorem lw_p19 : lw_okq (⟨"MockBookModel", "ruleFits", "(II)Z"⟩, 24) := ⟨⟨by decide +kernel, by decide +kernel⟩, List.mem_of_getElem? (i := 438) (by decide +kernel), List.mem_of_getElem? (i := 554) (by decide +kernel), List.mem_of_getElem? (i := 555) (by decide +kernel)⟩
theorem lw_p20 : lw_okq (⟨"MockBookModel", "uses", "(II)I"⟩, 24) := ⟨⟨by decide +kernel, by decide +kernel⟩, List.mem_of_getElem? (i := 438) (by decide +kernel), List.mem_of_getElem? (i := 561) (by decide +kernel), List.mem_of_getElem? (i := 562) (by decide +kernel)⟩
theorem lw_p21 : lw_okq (⟨"MockBookModel", "plain", "(II)J"⟩, 24) := ⟨⟨by decide +kernel, by decide +kernel⟩, List.mem_of_getElem? (i := 438) (by decide +kernel), List.mem_of_getElem? (i := 565) (by decide +kernel), List.mem_of_getElem? (i := 566) (by decide +kernel)⟩
theorem lw_p22 : lw_okq (⟨"MockBookModel", "asked", "(III)Z"⟩, 24) := ⟨⟨by decide +kernel, by decide +kernel⟩, List.mem_of_getElem? (i := 438) (by decide +kernel), List.mem_of_getElem? (i := 576) (by decide +kernel), List.mem_of_getElem? (i := 577) (by decide +kernel)⟩
def lw_privs_2 : List (MethodName × Nat) := [(⟨"MockBook", "countLiveRules", "()I"⟩, 5), (⟨"MockBookModel", "note", "(IIII)I"⟩, 24), (⟨"MockBookModel", "action", "(I)I"⟩, 24), (⟨"MockBookModel", "ruleFits", "(II)Z"⟩, 24), (⟨"MockBookModel", "uses", "(II)I"⟩, 24), (⟨"MockBookModel", "plain", "(II)J"⟩, 24), (⟨"MockBookModel", "asked", "(III)Z"⟩, 24)]
theorem lw_r2 : ∀ q ∈ lw_privs_2, lw_okq q := List.forall_mem_cons.mpr ⟨lw_p16, List.forall_mem_cons.mpr ⟨lw_p17, List.forall_mem_cons.mpr ⟨lw_p18, List.forall_mem_cons.mpr ⟨lw_p19, List.forall_mem_cons.mpr ⟨lw_p20, List.forall_mem_cons.mpr ⟨lw_p21, List.forall_mem_cons.mpr ⟨lw_p22, fun _ h => absurd h List.not_mem_nil⟩⟩⟩⟩⟩⟩⟩
def lw_privs : List (MethodName × Nat) := lw_privs_1 ++ (lw_privs_2)
def lw_tbl : List Cond := k2_sels lw_privs ++ tables_1
theorem lw_privs_ok : ∀ q ∈ lw_privs, lw_okq q := by
  show ∀ q ∈ lw_privs_1 ++ (lw_privs_2), lw_okq q
  exact List.forall_mem_append.mpr ⟨lw_r1, lw_r2⟩
end
section
/-! A world by names: every cell that matters has a name (a pair of numbers); A says at which address it lies and what it holds. Distinct names lie apart; what may be written lies from b on. -/
abbrev gN : Type := Nat × Nat
abbrev gW : Type := gN → Option (Nat × va_E)
def gU (A : gW) (n : gN) (x : Nat × va_E) : gW := fun k => if k = n then some x else A k
theorem gU_s {A : gW} {n : gN} {x : Nat × va_E} : gU A n x n = some x := if_pos rfl
theorem gU_n {A : gW} {n k : gN} {x : Nat × va_E} (h : k ≠ n) : gU A n x k = A k := if_neg h
/-- the empty row of references, which nobody can write -/
def gE (cA : ClassId) : va_E := .inl (cA, 0, .inr (.inr (.inr (.inr fun _ => none))))
def gP (D : va_G) (cl : List vw_C) (b : Nat) (A : gW) (H : Heap) : Prop :=
  b ≤ H.size ∧ (∀ (n : gN) (a : Nat) (x : va_E), A n = some (a, x) → va_at D cl (a, x) H ∧ (b ≤ a ∨ ∃ cA, x = gE cA)) ∧
  ∀ (n k : gN) (a : Nat) (x y : va_E), A n = some (a, x) → A k = some (a, y) → n = k
theorem gP.one {D : va_G} {cl : List vw_C} {b : Nat} {A : gW} {H : Heap} (h : gP D cl b A H) {n : gN} {a : Nat} {x : va_E} (hn : A n = some (a, x)) : va_P D cl [(a, x)] H := by
  intro k q hk
  cases k with
  | zero =>
    cases hk
    exact (h.2.1 n a x hn).1
  | succ k => simp at hk
theorem gP.two {D : va_G} {cl : List vw_C} {b : Nat} {A : gW} {H : Heap} (h : gP D cl b A H) {n n' : gN} {a a' : Nat} {x x' : va_E} (hn : A n = some (a, x)) (hn' : A n' = some (a', x')) : va_P D cl [(a, x), (a', x')] H := by
  intro k q hk
  match k, hk with
  | 0, hk =>
    cases hk
    exact (h.2.1 n a x hn).1
  | 1, hk =>
    cases hk
    exact (h.2.1 n' a' x' hn').1
  | k + 2, hk => simp at hk
theorem gP.lt {D : va_G} {cl : List vw_C} {b : Nat} {A : gW} {H : Heap} (h : gP D cl b A H) {n : gN} {a : Nat} {x : va_E} (hn : A n = some (a, x)) : a < H.size := (h.2.1 n a x hn).1.lt
theorem gP.ob {D : va_G} {cl : List vw_C} {b : Nat} {A : gW} {H : Heap} (h : gP D cl b A H) {n : gN} {a : Nat} {x : Nat × List Value} (hn : A n = some (a, .inr x)) : b ≤ a := by
  rcases (h.2.1 n a _ hn).2 with g | ⟨cA, g⟩
  · exact g
  · exact absurd g (fun z => by unfold gE at z; cases z)
theorem gP.ia {D : va_G} {cl : List vw_C} {b : Nat} {A : gW} {H : Heap} (h : gP D cl b A H) {n : gN} {a k : Nat} {cA : ClassId} {f : Nat → Int32} (hn : A n = some (a, .inl (cA, k, .inl f))) : b ≤ a := by
  rcases (h.2.1 n a _ hn).2 with g | ⟨cB, g⟩
  · exact g
  · exact absurd g (fun z => by unfold gE at z; cases z)
theorem gP.la {D : va_G} {cl : List vw_C} {b : Nat} {A : gW} {H : Heap} (h : gP D cl b A H) {n : gN} {a k : Nat} {cA : ClassId} {f : Nat → Int64} (hn : A n = some (a, .inl (cA, k, .inr (.inl f)))) : b ≤ a := by
  rcases (h.2.1 n a _ hn).2 with g | ⟨cB, g⟩
  · exact g
  · exact absurd g (fun z => by unfold gE at z; cases z)
theorem gP.qa {D : va_G} {cl : List vw_C} {b : Nat} {A : gW} {H : Heap} (h : gP D cl b A H) {n : gN} {a k : Nat} {cA : ClassId} {f : Nat → Option Nat} (hn : A n = some (a, .inl (cA, k, .inr (.inr (.inr (.inr f)))))) (hk : 0 < k) : b ≤ a := by
  rcases (h.2.1 n a _ hn).2 with g | ⟨cB, g⟩
  · exact g
  · unfold gE at g
    injection g with g
    injection g with g1 g2
    injection g2 with g3 g4
    omega
theorem gP.set {D : va_G} {cl : List vw_C} {b : Nat} {A : gW} {H H1 : Heap} (h : gP D cl b A H) {n : gN} {a : Nat} {x x' : va_E} (hn : A n = some (a, x)) (hb : b ≤ a) (z : H1.size = H.size) (he : va_at D cl (a, x') H1) (oq : ∀ q : Nat, q ≠ a → H1[q]? = H[q]?) : gP D cl b (gU A n (a, x')) H1 := by
  refine ⟨by rw [z]; exact h.1, fun k y w hk => ?_, fun k j y w v hk hj => ?_⟩
  · by_cases hkn : k = n
    · subst hkn
      rw [gU_s] at hk
      cases hk
      exact ⟨he, Or.inl hb⟩
    · rw [gU_n hkn] at hk
      obtain ⟨h1, h2⟩ := h.2.1 k y w hk
      exact ⟨h1.kept (oq y (fun q => hkn (h.2.2 k n y w x hk (by rw [q]; exact hn)))), h2⟩
  · by_cases hkn : k = n
    · by_cases hjn : j = n
      · rw [hkn, hjn]
      · subst hkn
        rw [gU_s] at hk
        rw [gU_n hjn] at hj
        cases hk
        exact absurd (h.2.2 j k a v x hj hn) hjn
    · by_cases hjn : j = n
      · subst hjn
        rw [gU_s] at hj
        rw [gU_n hkn] at hk
        cases hj
        exact absurd (h.2.2 k j a w x hk hn) hkn
      · rw [gU_n hkn] at hk
        rw [gU_n hjn] at hj
        exact h.2.2 k j y w v hk hj
theorem gP.new {D : va_G} {cl : List vw_C} {b : Nat} {A : gW} {H H1 : Heap} (h : gP D cl b A H) (n : gN) {x : va_E} (z : H1.size = H.size + 1) (he : va_at D cl (H.size, x) H1) (o1 : ∀ q : Nat, q < H.size → H1[q]? = H[q]?) : gP D cl b (gU A n (H.size, x)) H1 := by
  refine ⟨by rw [z]; exact Nat.le_succ_of_le h.1, fun k y w hk => ?_, fun k j y w v hk hj => ?_⟩
  · by_cases hkn : k = n
    · subst hkn
      rw [gU_s] at hk
      cases hk
      exact ⟨he, Or.inl h.1⟩
    · rw [gU_n hkn] at hk
      obtain ⟨h1, h2⟩ := h.2.1 k y w hk
      exact ⟨h1.kept (o1 y h1.lt), h2⟩
  · by_cases hkn : k = n
    · by_cases hjn : j = n
      · rw [hkn, hjn]
      · subst hkn
        rw [gU_s] at hk
        rw [gU_n hjn] at hj
        cases hk
        exact absurd (h.lt hj) (Nat.lt_irrefl _)
    · by_cases hjn : j = n
      · subst hjn
        rw [gU_s] at hj
        rw [gU_n hkn] at hk
        cases hj
        exact absurd (h.lt hk) (Nat.lt_irrefl _)
      · rw [gU_n hkn] at hk
        rw [gU_n hjn] at hj
        exact h.2.2 k j y w v hk hj
/-- a world that agrees where it is asked -/
theorem gP.sub {D : va_G} {cl : List vw_C} {b : Nat} {A A' : gW} {H : Heap} (h : gP D cl b A H) (hs : ∀ n x, A' n = some x → A n = some x) : gP D cl b A' H :=
  ⟨h.1, fun n a x hn => h.2.1 n a x (hs n _ hn), fun n k a x y hn hk => h.2.2 n k a x y (hs n _ hn) (hs k _ hk)⟩
theorem gP.apart {D : va_G} {cl : List vw_C} {b : Nat} {A : gW} {H : Heap} (h : gP D cl b A H) {n k : gN} {a a' : Nat} {x y : va_E} (hn : A n = some (a, x)) (hk : A k = some (a', y)) (hne : n ≠ k) : a ≠ a' := fun e => hne (h.2.2 n k a x y hn (by rw [e]; exact hk))
abbrev gS (b : Nat) (H0 H : Heap) (locs : List Loc) : Prop := va_S (fun q => b ≤ q) H0 H locs
theorem gS.new {b : Nat} {H0 H H1 : Heap} {locs : List Loc} (h : gS b H0 H locs) (z : H1.size = H.size + 1) (o1 : ∀ q : Nat, q < H.size → H1[q]? = H[q]?) : gS b H0 H1 locs :=
  ⟨Nat.le_trans h.1 (by omega), fun q h1 h2 => (o1 q (Nat.lt_of_lt_of_le h1 h.1)).trans (h.2.1 q h1 h2), h.2.2⟩
section GL
variable {p : Program} {l : Launch} {e : Env} {R : Room} {s : State} {m : MethodId} {args : Array Value} {below : List Frame} {meth : Method} {c : Code} {H : Heap} {locs : List Loc} {cells slots : Nat} {Q : State → Prop}
variable {cc : ByteArray} {pc : Nat} {ls : Array Slot} {rest : List Value} {D : va_G} {cl : List vw_C} {a b : Nat} {tys : List (ClassId × FieldType)} {A : gW} {H0 : Heap}
theorem g_get (hexec : p.tables.exec = Jvm.exec) (hb : c.code = cc) {own ref C : String} {T : u_T} {N ci index : Nat} {Ts : List Cond} (hts : ∀ w ∈ Ts, w.before args s = true) (hin : ∀ w ∈ u_ws C T N, w ∈ Ts) (hown : s.vm.findClass own = some m.cls) (hK : va_K D cl tys s) (hP : gP D cl b A H) {n : gN} {fs : List Value} (he : A n = some (a, .inr (ci, fs))) (hc : cl[ci]? = some (C, T, N)) (k : Nat) (hk : k < N) (hlink : (Cond.fieldLink own index ref (T k).2.1 (T k).2.2.1).before args s = true) (hsame : ∀ x, s.fieldFound? (T k).1 (T k).2.1 (T k).2.2.1 = some x → s.fieldFound? ref (T k).2.1 (T k).2.2.1 = some x) {v : Value} (hv : fs[k]? = some v) (hdg : decode cc pc = .ok (.getfield index, 3))
    (kk : W p l e R s m args below meth c H locs cells slots Q (F0 m (pc + 3) ls (v :: rest))) : W p l e R s m args below meth c H locs cells slots Q (F0 m pc ls (.ref a :: rest)) :=
  va_get hexec hb hts hin hown hK (hP.one he) 0 rfl hc k hk hlink hsame hv hdg kk
theorem g_put (hexec : p.tables.exec = Jvm.exec) (hb : c.code = cc) {own ref C : String} {T : u_T} {N ci index : Nat} {Ts : List Cond} (hts : ∀ w ∈ Ts, w.before args s = true) (hin : ∀ w ∈ u_ws C T N, w ∈ Ts) (ty0 : Nat → FieldType) (hty : ∀ k, k < N → parseFieldDescriptor (T k).2.2.1 = some (ty0 k)) (hnm : ∀ a, a < N → ∀ b, b < N → a ≠ b → (T a).2.1 ≠ (T b).2.1) (hown : s.vm.findClass own = some m.cls) (hK : va_K D cl tys s) (hP : gP D cl b A H) (hS0 : gS b H0 H locs) {n : gN} {fs : List Value} (he : A n = some (a, .inr (ci, fs))) (hc : cl[ci]? = some (C, T, N)) (k : Nat) (hk : k < N) (hlink : (Cond.fieldLink own index ref (T k).2.1 (T k).2.2.1).before args s = true) (hsame : ∀ x, s.fieldFound? (T k).1 (T k).2.1 (T k).2.2.1 = some x → s.fieldFound? ref (T k).2.1 (T k).2.2.1 = some x) (hfin : (T k).2.2.2 = false) {ty : FieldType} {v : Value} (hd : parseFieldDescriptor (T k).2.2.1 = some ty) (hn : narrow ty v = v) (hfit : fits ty v = true) (hl : k < fs.length)
    (hdg : decode cc pc = .ok (.putfield index, 3)) (kk : ∀ (H1 : Heap) (locs1 : List Loc), gP D cl b (gU A n (a, .inr (ci, fs.set k v))) H1 → gS b H0 H1 locs1 → W p l e R s m args below meth c H1 locs1 cells slots Q (F0 m (pc + 3) ls rest)) : W p l e R s m args below meth c H locs cells slots Q (F0 m pc ls (v :: .ref a :: rest)) := by
  have hap := va_apart (own := own) hts hin ty0 hty hnm hK hc
  have hba : b ≤ a := hP.ob he
  obtain ⟨r, h1, cell, q1, q2, q3, q4⟩ := (hP.2.1 n a _ he).1
  have hr : r = (C, T, N) := Option.some.inj (h1.symm.trans hc)
  subst hr
  obtain ⟨hS, hfc, kC, hkC, hkind⟩ := hK.1 ci _ hc
  obtain ⟨cf, kf, fi, f, hi, hsl⟩ := hS k hk
  have hlay := hts _ (hin _ (u_in_lay hk))
  unfold u_lay at hlay
  rw [if_neg (by rw [hfin]; decide)] at hlay
  have hst := (u_facts hfc hkC (u_lays hts hin hk) hi).1
  have h6 := u_store hfc hkC hkind hlay hi hd hn hfit
  refine W.putK hexec hb (f := f) ⟨hown, hlink, ⟨_, _, _, hsame _ hi⟩, hst⟩ (by rw [q2]; exact h6) q1 q3 (by rw [hsl]; exact k2_hasslot (q4 k hk)) rfl rfl hdg fun H' e1 e2 e3 => ?_
  rw [hsl] at e1 ⊢
  exact kk H' _ (hP.set he hba e2 ⟨_, hc, t_OB.to (V := updV (vp_V fs) k v) ⟨_, e1, q2, q3, t_set q4 hap hk v⟩ (fun j _ => vp_updV_set hl v j)⟩ e3) (hS0.put e2 e3 hba)
theorem g_putF (hexec : p.tables.exec = Jvm.exec) (hb : c.code = cc) {own ref C : String} {T : u_T} {N ci index : Nat} {Ts : List Cond} (hts : ∀ w ∈ Ts, w.before args s = true) (hin : ∀ w ∈ u_ws C T N, w ∈ Ts) (ty0 : Nat → FieldType) (hty : ∀ k, k < N → parseFieldDescriptor (T k).2.2.1 = some (ty0 k)) (hnm : ∀ a, a < N → ∀ b, b < N → a ≠ b → (T a).2.1 ≠ (T b).2.1) (hown : s.vm.findClass own = some m.cls) (hK : va_K D cl tys s) (hP : gP D cl b A H) (hS0 : gS b H0 H locs) {n : gN} {fs : List Value} (he : A n = some (a, .inr (ci, fs))) (hc : cl[ci]? = some (C, T, N)) (k : Nat) (hk : k < N) (hlink : (Cond.fieldLink own index ref (T k).2.1 (T k).2.2.1).before args s = true) (hsame : ∀ x, s.fieldFound? (T k).1 (T k).2.1 (T k).2.2.1 = some x → s.fieldFound? ref (T k).2.1 (T k).2.2.1 = some x) (hfin : (T k).2.2.2 = true) (hin2 : meth.name = "<init>") (hdecl : (T k).1 = own) {ty : FieldType} {v : Value} (hd : parseFieldDescriptor (T k).2.2.1 = some ty) (hn : narrow ty v = v) (hfit : fits ty v = true) (hl : k < fs.length)
    (hdg : decode cc pc = .ok (.putfield index, 3)) (kk : ∀ (H1 : Heap) (locs1 : List Loc), gP D cl b (gU A n (a, .inr (ci, fs.set k v))) H1 → gS b H0 H1 locs1 → W p l e R s m args below meth c H1 locs1 cells slots Q (F0 m (pc + 3) ls rest)) : W p l e R s m args below meth c H locs cells slots Q (F0 m pc ls (v :: .ref a :: rest)) := by
  have hap := va_apart (own := own) hts hin ty0 hty hnm hK hc
  have hba : b ≤ a := hP.ob he
  obtain ⟨r, h1, cell, q1, q2, q3, q4⟩ := (hP.2.1 n a _ he).1
  have hr : r = (C, T, N) := Option.some.inj (h1.symm.trans hc)
  subst hr
  obtain ⟨hS, hfc, kC, hkC, hkind⟩ := hK.1 ci _ hc
  obtain ⟨cf, kf, fi, f, hi, hsl⟩ := hS k hk
  have hlay := hts _ (hin _ (u_in_lay hk))
  unfold u_lay at hlay
  rw [if_pos hfin] at hlay
  have hst := (u_facts hfc hkC (u_lays hts hin hk) hi).1
  have hcf : m.cls = cf := by
    obtain ⟨_, _, c', _, _, _, -, -, hf', -, -, -, hown2, -⟩ := Cond.laysFinal_spec hlay
    have e1 : c' = cf := by have := hi.symm.trans hf'; simp at this; exact this.1.symm
    rw [hdecl] at hown2
    rw [← e1]; exact Option.some.inj (hown.symm.trans hown2)
  have h6 := u_fits hfc hkC hkind (Or.inr hlay) hi hd hn hfit
  refine W.putFinK hexec hb hown hlink (hsame _ hi) hst hcf hin2 (by rw [q2]; exact h6) q1 q3 (by rw [hsl]; exact k2_hasslot (q4 k hk)) rfl rfl hdg fun H' e1 e2 e3 => ?_
  rw [hsl] at e1 ⊢
  exact kk H' _ (hP.set he hba e2 ⟨_, hc, t_OB.to (V := updV (vp_V fs) k v) ⟨_, e1, q2, q3, t_set q4 hap hk v⟩ (fun j _ => vp_updV_set hl v j)⟩ e3) (hS0.put e2 e3 hba)
theorem g_new {c0 : Code} (hexec : p.tables.exec = Jvm.exec) (hb : c0.code = cc) {own C : String} {T : u_T} {N ci index : Nat} {Ts : List Cond} (hts : ∀ w ∈ Ts, w.before args s = true) (hin : ∀ w ∈ u_ws C T N, w ∈ Ts) (ty : Nat → FieldType) (hty : ∀ k, k < N → parseFieldDescriptor (T k).2.2.1 = some (ty k)) (hown : s.vm.findClass own = some m.cls) (hcl : (Cond.classLink own index C).before args s = true) (hinst : (Cond.instantiable C N).before args s = true) (hini : (Cond.initialized C).before args s = true)
    (hK : va_K D cl tys s) (hP : gP D cl b A H) (hS : gS b H0 H locs) (n : gN) (hc : cl[ci]? = some (C, T, N)) {fs : List Value} (hfs : ∀ j, j < N → defaultValue (ty j) = vp_V fs j) (hcells : cells + 1 ≤ R.cells) (hslots : slots + N ≤ R.slots) (hdg : decode cc pc = .ok (.new index, 3))
    (kk : ∀ (q : Nat) (H1 : Heap), gP D cl b (gU A n (q, .inr (ci, fs))) H1 → gS b H0 H1 locs →
      W p l e R s m args below meth c0 H1 locs (cells + 1) (slots + N) Q (F0 m (pc + 3) ls (.ref q :: rest))) : W p l e R s m args below meth c0 H locs cells slots Q (F0 m pc ls rest) := by
  have hKn := hK.1 ci _ hc
  refine W.newcK hexec hb hown hcl hinst hini rfl hdg hcells hslots hKn.2.1 rfl fun H1 kC hkC e1 z1 o1 => ?_
  exact kk H.size H1 (hP.new n z1 ⟨_, hc, (u_born ty hts hin hKn hkC e1 hty).to hfs⟩ o1) (hS.new z1 o1)
theorem g_newa (hexec : p.tables.exec = Jvm.exec) (hb : c.code = cc) {atype : ArrayType} (harr : (Cond.arrayClass (newarray.typeOf atype)).before args s = true) {ty : FieldType} (hty : newarray.typeOf atype = ty) (hK : va_K D cl tys s) (hP : gP D cl b A H) (hS : gS b H0 H locs) (n : gN) {cA : ClassId} (hnm : s.vm.findClass ("[" ++ ty.toString) = some cA)
    {z : Int32} {N' : Nat} {a0 : vp_A} (ha : vp_cell cA a0 = arrV cA N' (fun _ => defaultValue ty)) (hz : ¬ z < 0) (hN : z.toNatClampNeg = N') (hbytes : N' * componentBytes ty ≤ 536870912) (hcells : cells + 1 ≤ R.cells) (hslots : slots + N' ≤ R.slots) (hdg : decode cc pc = .ok (.newarray atype, 2))
    (kk : ∀ (q : Nat) (H1 : Heap), gP D cl b (gU A n (q, .inl (cA, a0))) H1 → gS b H0 H1 locs →
      W p l e R s m args below meth c H1 locs (cells + 1) (slots + N') Q (F0 m (pc + 2) ls (.ref q :: rest))) : W p l e R s m args below meth c H locs cells slots Q (F0 m pc ls (.int z :: rest)) := by
  subst hty
  refine va_newaK hexec hb harr rfl hdg rfl hz hN hbytes hcells hslots rfl fun H1 cB e1 z1 o1 hAr hNm => ?_
  have hcc : cB = cA := Option.some.inj (hNm.symm.trans hnm)
  subst hcc
  refine kk H.size H1 (hP.new n z1 ?_ o1) (hS.new z1 o1)
  show H1[H.size]? = some (vp_cell _ _)
  rw [ha]
  exact e1
theorem g_newq (hexec : p.tables.exec = Jvm.exec) (hb : c.code = cc) {own C : String} {index : Nat} (hown : s.vm.findClass own = some m.cls) (hclink : (Cond.classLink own index C).before args s = true) (hover : va_AO C s) (hP : gP D cl b A H) (hS : gS b H0 H locs) (n : gN) {cA : ClassId} (hnm : s.vm.findClass ("[" ++ (FieldType.object C).toString) = some cA)
    {z : Int32} {N' : Nat} (hz : ¬ z < 0) (hN : z.toNatClampNeg = N') (hbytes : N' * 4 ≤ 536870912) (hcells : cells + 1 ≤ R.cells) (hslots : slots + N' ≤ R.slots) (hdg : decode cc pc = .ok (.anewarray index, 3))
    (kk : ∀ (q : Nat) (H1 : Heap), gP D cl b (gU A n (q, .inl (cA, N', .inr (.inr (.inr (.inr (fun _ => none))))))) H1 → gS b H0 H1 locs → (∀ x : Nat, x < H.size → H1[x]? = H[x]?) → H1.size = H.size + 1 → q = H.size →
      W p l e R s m args below meth c H1 locs (cells + 1) (slots + N') Q (F0 m (pc + 3) ls (.ref q :: rest))) : W p l e R s m args below meth c H locs cells slots Q (F0 m pc ls (.int z :: rest)) := by
  subst hN
  refine W.anew hexec hb hown hclink (va_AO.use hover) rfl hdg rfl hz hbytes hcells hslots fun cB kA comp f1 f2 f3 f4 => ?_
  have hcc : cB = cA := Option.some.inj (f1.symm.trans hnm)
  subst hcc
  generalize hH1 : H.push ({ cls := cB, slots := Array.replicate z.toNatClampNeg .null, vm := .none } : Cell) = H1
  have z1 : H1.size = H.size + 1 := by rw [← hH1, Array.size_push]
  have e1 : H1[H.size]? = some (arrV cB z.toNatClampNeg (fun _ => .null)) := by rw [← hH1, Array.getElem?_push_size, ← arrV_new]
  have o1 : ∀ q : Nat, q < H.size → H1[q]? = H[q]? := fun q hq => by rw [← hH1, Array.getElem?_push, if_neg (Nat.ne_of_lt hq)]
  refine kk H.size H1 (hP.new n z1 ?_ o1) (hS.new z1 o1) o1 z1 rfl
  show H1[H.size]? = some (vp_cell _ _)
  rw [vp_cell_q]
  exact e1
theorem g_iald (hexec : p.tables.exec = Jvm.exec) (hb : c.code = cc) (hK : va_K D cl tys s) (hP : gP D cl b A H) (t0 : Nat) {n : gN} {cA : ClassId} {N : Nat} {f : Nat → Int32} (ha : A n = some (a, .inl (cA, N, .inl f))) (ht : tys[t0]? = some (cA, .int)) {i v : Int32} (hin : vp_in i N) (hv : f i.toNatClampNeg = v) (hdg : decode cc pc = .ok (.iaload, 1))
    (kk : W p l e R s m args below meth c H locs cells slots Q (F0 m (pc + 1) ls (.int v :: rest))) : W p l e R s m args below meth c H locs cells slots Q (F0 m pc ls (.int i :: .ref a :: rest)) :=
  va_iald hexec hb hK (hP.one ha) 0 t0 rfl ht hin hdg (by rw [hv]; exact kk)
theorem g_zald (hexec : p.tables.exec = Jvm.exec) (hb : c.code = cc) (hK : va_K D cl tys s) (hP : gP D cl b A H) (t0 : Nat) {n : gN} {cA : ClassId} {N : Nat} {f : Nat → Int32} (ha : A n = some (a, .inl (cA, N, .inl f))) (ht : tys[t0]? = some (cA, .boolean)) {i v : Int32} (hin : vp_in i N) (hv : f i.toNatClampNeg = v) (hdg : decode cc pc = .ok (.baload, 1))
    (kk : W p l e R s m args below meth c H locs cells slots Q (F0 m (pc + 1) ls (.int v :: rest))) : W p l e R s m args below meth c H locs cells slots Q (F0 m pc ls (.int i :: .ref a :: rest)) :=
  va_zald hexec hb hK (hP.one ha) 0 t0 rfl ht hin hdg (by rw [hv]; exact kk)
theorem g_lald (hexec : p.tables.exec = Jvm.exec) (hb : c.code = cc) (hK : va_K D cl tys s) (hP : gP D cl b A H) (t0 : Nat) {n : gN} {cA : ClassId} {N : Nat} {f : Nat → Int64} (ha : A n = some (a, .inl (cA, N, .inr (.inl f)))) (ht : tys[t0]? = some (cA, .long)) {i : Int32} {v : Int64} (hin : vp_in i N) (hv : f i.toNatClampNeg = v) (hdg : decode cc pc = .ok (.laload, 1))
    (kk : W p l e R s m args below meth c H locs cells slots Q (F0 m (pc + 1) ls (.long v :: rest))) : W p l e R s m args below meth c H locs cells slots Q (F0 m pc ls (.int i :: .ref a :: rest)) :=
  va_lald hexec hb hK (hP.one ha) 0 t0 rfl ht hin hdg (by rw [hv]; exact kk)
theorem g_aald (hexec : p.tables.exec = Jvm.exec) (hb : c.code = cc) (hK : va_K D cl tys s) (hP : gP D cl b A H) (t0 : Nat) {n : gN} {cA : ClassId} {C : String} {N : Nat} {f : Nat → Option Nat} (ha : A n = some (a, .inl (cA, N, .inr (.inr (.inr (.inr f)))))) (ht : tys[t0]? = some (cA, .object C)) {i : Int32} {v : Value} (hin : vp_in i N) (hv : va_rf (f i.toNatClampNeg) = v) (hdg : decode cc pc = .ok (.aaload, 1))
    (kk : W p l e R s m args below meth c H locs cells slots Q (F0 m (pc + 1) ls (v :: rest))) : W p l e R s m args below meth c H locs cells slots Q (F0 m pc ls (.int i :: .ref a :: rest)) :=
  va_aldq hexec hb hK (hP.one ha) 0 t0 rfl ht hin hdg (by rw [hv]; exact kk)
theorem g_alen (hexec : p.tables.exec = Jvm.exec) (hb : c.code = cc) (hK : va_K D cl tys s) (hP : gP D cl b A H) (t0 : Nat) {n : gN} {cA : ClassId} {x : vp_A} (ha : A n = some (a, .inl (cA, x))) {ty : FieldType} (ht : tys[t0]? = some (cA, ty)) {v : Int32} (hv : Int32.ofNat x.1 = v) (hdg : decode cc pc = .ok (.arraylength, 1))
    (kk : W p l e R s m args below meth c H locs cells slots Q (F0 m (pc + 1) ls (.int v :: rest))) : W p l e R s m args below meth c H locs cells slots Q (F0 m pc ls (.ref a :: rest)) :=
  va_alen hexec hb hK (hP.one ha) 0 t0 rfl ht hv hdg kk
theorem g_iast (hexec : p.tables.exec = Jvm.exec) (hb : c.code = cc) (hK : va_K D cl tys s) (hP : gP D cl b A H) (hS : gS b H0 H locs) (t0 : Nat) {n : gN} {cA : ClassId} {N : Nat} {f : Nat → Int32} (ha : A n = some (a, .inl (cA, N, .inl f))) (ht : tys[t0]? = some (cA, .int)) {i x : Int32} {k : Nat} (hin : vp_in i N) (hk : i.toNatClampNeg = k) (hdg : decode cc pc = .ok (.iastore, 1))
    (kk : ∀ (H1 : Heap) (locs1 : List Loc), gP D cl b (gU A n (a, .inl (cA, N, .inl (upd f k x)))) H1 → gS b H0 H1 locs1 → W p l e R s m args below meth c H1 locs1 cells slots Q (F0 m (pc + 1) ls rest)) : W p l e R s m args below meth c H locs cells slots Q (F0 m pc ls (.int x :: .int i :: .ref a :: rest)) := by
  subst hk
  have hba : b ≤ a := hP.ia ha
  refine W.iast hexec hb (hP.2.1 n a _ ha).1 ((hK.2 t0 _ ht).1 N (fun j => .int (f j))) (fun q => by cases q) (by show ¬ (i < 0 ∨ (arrV _ _ _).slots.size ≤ _); rw [arrV_size]; exact hin) rfl rfl hdg fun H1 e1 z oq => ?_
  refine kk H1 _ (hP.set ha hba z ?_ oq) (hS.put z oq hba)
  show H1[a]? = some (vp_cell _ _)
  rw [e1]
  rw [vp_cell_i, vp_cell_i, arrV_store]
  congr 2
  funext q
  by_cases hq : q = i.toNatClampNeg
  · subst hq
    simp [updV, upd]
  · simp [updV, upd, hq]
theorem g_last (hexec : p.tables.exec = Jvm.exec) (hb : c.code = cc) (hK : va_K D cl tys s) (hP : gP D cl b A H) (hS : gS b H0 H locs) (t0 : Nat) {n : gN} {cA : ClassId} {N : Nat} {f : Nat → Int64} (ha : A n = some (a, .inl (cA, N, .inr (.inl f)))) (ht : tys[t0]? = some (cA, .long)) {i : Int32} {x : Int64} {k : Nat} (hin : vp_in i N) (hk : i.toNatClampNeg = k) (hdg : decode cc pc = .ok (.lastore, 1))
    (kk : ∀ (H1 : Heap) (locs1 : List Loc), gP D cl b (gU A n (a, .inl (cA, N, .inr (.inl (vp_updL f k x))))) H1 → gS b H0 H1 locs1 → W p l e R s m args below meth c H1 locs1 cells slots Q (F0 m (pc + 1) ls rest)) : W p l e R s m args below meth c H locs cells slots Q (F0 m pc ls (.long x :: .int i :: .ref a :: rest)) := by
  subst hk
  have hba : b ≤ a := hP.la ha
  refine W.last hexec hb (hP.2.1 n a _ ha).1 ((hK.2 t0 _ ht).1 N (fun j => .long (f j))) (fun q => by cases q) (by show ¬ (i < 0 ∨ (arrV _ _ _).slots.size ≤ _); rw [arrV_size]; exact hin) rfl rfl hdg fun H1 e1 z oq => ?_
  refine kk H1 _ (hP.set ha hba z ?_ oq) (hS.put z oq hba)
  show H1[a]? = some (vp_cell _ _)
  rw [e1]
  rw [vp_cell_l, vp_cell_l, arrV_store]
  congr 2
  funext q
  by_cases hq : q = i.toNatClampNeg
  · subst hq
    simp [updV, vp_updL]
  · simp [updV, vp_updL, hq]
theorem g_zast (hexec : p.tables.exec = Jvm.exec) (hb : c.code = cc) (hK : va_K D cl tys s) (hP : gP D cl b A H) (hS : gS b H0 H locs) (t0 : Nat) {n : gN} {cA : ClassId} {N : Nat} {f : Nat → Int32} (ha : A n = some (a, .inl (cA, N, .inl f))) (ht : tys[t0]? = some (cA, .boolean)) {i x : Int32} {k : Nat} (hin : vp_in i N) (hk : i.toNatClampNeg = k) (hnar : narrow .boolean (.int x) = .int x) (hdg : decode cc pc = .ok (.bastore, 1))
    (kk : ∀ (H1 : Heap) (locs1 : List Loc), gP D cl b (gU A n (a, .inl (cA, N, .inl (upd f k x)))) H1 → gS b H0 H1 locs1 → W p l e R s m args below meth c H1 locs1 cells slots Q (F0 m (pc + 1) ls rest)) : W p l e R s m args below meth c H locs cells slots Q (F0 m pc ls (.int x :: .int i :: .ref a :: rest)) := by
  subst hk
  have hba : b ≤ a := hP.ia ha
  refine W.zast hexec hb (hP.2.1 n a _ ha).1 ((hK.2 t0 _ ht).1 N (fun j => .int (f j))) (fun q => by cases q) (by show ¬ (i < 0 ∨ (arrV _ _ _).slots.size ≤ _); rw [arrV_size]; exact hin) rfl rfl hdg fun H1 e1 z oq => ?_
  refine kk H1 _ (hP.set ha hba z ?_ oq) (hS.put z oq hba)
  show H1[a]? = some (vp_cell _ _)
  rw [e1, hnar]
  rw [vp_cell_i, vp_cell_i, arrV_store]
  congr 2
  funext q
  by_cases hq : q = i.toNatClampNeg
  · subst hq
    simp [updV, upd]
  · simp [updV, upd, hq]
theorem g_aast (hexec : p.tables.exec = Jvm.exec) (hb : c.code = cc) (hK : va_K D cl tys s) (hP : gP D cl b A H) (hS : gS b H0 H locs) (t0 : Nat) {n : gN} {E : String} {cA : ClassId} {N v : Nat} {f : Nat → Option Nat} (ha : A n = some (a, .inl (cA, N, .inr (.inr (.inr (.inr f)))))) (ht : tys[t0]? = some (cA, .object E)) (hr : va_Any E s H v) {i : Int32} {k : Nat} (hin : vp_in i N) (hk : i.toNatClampNeg = k) (hdg : decode cc pc = .ok (.aastore, 1))
    (kk : ∀ (H1 : Heap) (locs1 : List Loc), gP D cl b (gU A n (a, .inl (cA, N, .inr (.inr (.inr (.inr (va_up f k (some v)))))))) H1 → gS b H0 H1 locs1 → W p l e R s m args below meth c H1 locs1 cells slots Q (F0 m (pc + 1) ls rest)) : W p l e R s m args below meth c H locs cells slots Q (F0 m pc ls (.ref v :: .int i :: .ref a :: rest)) := by
  subst hk
  have hlt : i.toNatClampNeg < N := Nat.not_le.mp fun q => hin (Or.inr q)
  have h0 : ¬ i < 0 := fun q => hin (Or.inl q)
  have hba : b ≤ a := hP.qa ha (by omega)
  obtain ⟨cellV, g1, g3, ⟨kC, hkC⟩, hasg⟩ := hr
  obtain ⟨kA, comp, k1, k2, k3, -⟩ := (hK.2 t0 _ ht).2
  obtain ⟨kE, hkE, -⟩ := Vm.findClass_spec k3
  refine W.aast hexec hb (hP.2.1 n a _ ha).1 (fun q h => by cases h) (fun h => by cases h) k1 k2 rfl hkE ⟨h0, by show _ < (arrV _ _ _).slots.size; rw [arrV_size]; exact hlt⟩ g1 (fun q h => by rw [h] at g3; cases g3) hkC (hasg _ k3) rfl rfl hdg fun H1 e1 z oq => ?_
  refine kk H1 _ (hP.set ha hba z ?_ oq) (hS.put z oq hba)
  show H1[a]? = some (vp_cell _ _)
  rw [e1]
  rw [vp_cell_q, vp_cell_q, arrV_store]
  congr 2
  funext q
  by_cases hq : q = i.toNatClampNeg
  · subst hq
    simp [updV, va_up, va_rf]
  · simp [updV, va_up, hq]
end GL
section GC
variable {p : Program} {l : Launch} {e : Env} {R : Room} {s : State} {m : MethodId} {args : Array Value} {below : List Frame} {meth : Method} {c : Code} {H : Heap} {locs : List Loc} {cells slots : Nat} {Q : State → Prop}
variable {pc : Nat} {ls : Array Slot} {rest st0 : List Value} {a : Array Value} {b : Nat} {H0 : Heap} {mc ms : Nat}
/-- behind a call that only reads -/
theorem g_ri {post : Int32 → Prop} (hr : va_Run p l e R s m args below meth c H locs cells slots 0 0 (F0 m pc ls st0) rest (vp_Si post a) (fun _ => False))
    (kk : ∀ r : Int32, post r → W p l e R s m args below meth c H locs cells slots Q (F0 m (pc + 3) ls (.int r :: rest))) : W p l e R s m args below meth c H locs cells slots Q (F0 m pc ls st0) := by
  intro T hT X
  obtain ⟨v, st₀, t, T', L, h0, X', hL, e1, e2, ⟨r, hv, hp, hh⟩, st⟩ := hr T hT X
  cases hv
  obtain ⟨t2, a1, b1⟩ := kk r hp T' (by rw [e1, hh, h0]) (Stand.forget X' (fun q h => (hL q h).elim))
  exact ⟨t2, st t2 a1, b1⟩
theorem g_rl {post : Int64 → Prop} (hr : va_Run p l e R s m args below meth c H locs cells slots 0 0 (F0 m pc ls st0) rest (vp_Sl post a) (fun _ => False))
    (kk : ∀ r : Int64, post r → W p l e R s m args below meth c H locs cells slots Q (F0 m (pc + 3) ls (.long r :: rest))) : W p l e R s m args below meth c H locs cells slots Q (F0 m pc ls st0) := by
  intro T hT X
  obtain ⟨v, st₀, t, T', L, h0, X', hL, e1, e2, ⟨r, hv, hp, hh⟩, st⟩ := hr T hT X
  cases hv
  obtain ⟨t2, a1, b1⟩ := kk r hp T' (by rw [e1, hh, h0]) (Stand.forget X' (fun q h => (hL q h).elim))
  exact ⟨t2, st t2 a1, b1⟩
def gSr (r : Nat) : Array Value → State → Outcome → State → Prop := fun _ st o t => o = .returned (some (.ref r)) ∧ t.heap = st.heap
theorem g_rr {r : Nat} (hr : va_Run p l e R s m args below meth c H locs cells slots 0 0 (F0 m pc ls st0) rest (gSr r a) (fun _ => False))
    (kk : W p l e R s m args below meth c H locs cells slots Q (F0 m (pc + 3) ls (.ref r :: rest))) : W p l e R s m args below meth c H locs cells slots Q (F0 m pc ls st0) := by
  intro T hT X
  obtain ⟨v, st₀, t, T', L, h0, X', hL, e1, e2, ⟨hv, hh⟩, st⟩ := hr T hT X
  cases hv
  obtain ⟨t2, a1, b1⟩ := kk T' (by rw [e1, hh, h0]) (Stand.forget X' (fun q h => (hL q h).elim))
  exact ⟨t2, st t2 a1, b1⟩
/-- behind a call that writes: void, int, long, a reference -/
theorem g_cv {S : Type} {post : S → Prop} {B : S → Heap → Prop} (hr : va_Run p l e R s m args below meth c H locs cells slots mc ms (F0 m pc ls st0) rest (va_Qv post (fun u t => B u t.heap) (fun q => b ≤ q) a) (fun q => b ≤ q)) (hS : gS b H0 H locs)
    (kk : ∀ (u : S) (H1 : Heap) (locs1 : List Loc), post u → B u H1 → gS b H0 H1 locs1 → W p l e R s m args below meth c H1 locs1 (cells + mc) (slots + ms) Q (F0 m (pc + 3) ls rest)) : W p l e R s m args below meth c H locs cells slots Q (F0 m pc ls st0) :=
  va_callv hr hS (fun _ _ h => h) (fun _ h => h) (fun u t H1 locs1 ht _ hp hb _ _ hS1 => kk u H1 locs1 hp (ht ▸ hb) hS1)
theorem g_ci {S : Type} {post : Int32 → S → Prop} {B : S → Heap → Prop} (hr : va_Run p l e R s m args below meth c H locs cells slots mc ms (F0 m pc ls st0) rest (va_Qi post (fun u t => B u t.heap) (fun q => b ≤ q) a) (fun q => b ≤ q)) (hS : gS b H0 H locs)
    (kk : ∀ (r : Int32) (u : S) (H1 : Heap) (locs1 : List Loc), post r u → B u H1 → gS b H0 H1 locs1 → W p l e R s m args below meth c H1 locs1 (cells + mc) (slots + ms) Q (F0 m (pc + 3) ls (.int r :: rest))) : W p l e R s m args below meth c H locs cells slots Q (F0 m pc ls st0) :=
  va_calli hr hS (fun _ _ h => h) (fun _ h => h) (fun r u t H1 locs1 ht _ hp hb _ _ hS1 => kk r u H1 locs1 hp (ht ▸ hb) hS1)
theorem g_cl {S : Type} {post : Int64 → S → Prop} {B : S → Heap → Prop} (hr : va_Run p l e R s m args below meth c H locs cells slots mc ms (F0 m pc ls st0) rest (va_Ql post (fun u t => B u t.heap) (fun q => b ≤ q) a) (fun q => b ≤ q)) (hS : gS b H0 H locs)
    (kk : ∀ (r : Int64) (u : S) (H1 : Heap) (locs1 : List Loc), post r u → B u H1 → gS b H0 H1 locs1 → W p l e R s m args below meth c H1 locs1 (cells + mc) (slots + ms) Q (F0 m (pc + 3) ls (.long r :: rest))) : W p l e R s m args below meth c H locs cells slots Q (F0 m pc ls st0) :=
  va_calll hr hS (fun _ _ h => h) (fun _ h => h) (fun r u t H1 locs1 ht _ hp hb _ _ hS1 => kk r u H1 locs1 hp (ht ▸ hb) hS1)
theorem g_cr {S : Type} {post : S → Prop} {B : S → Nat → Heap → Prop} (hr : va_Run p l e R s m args below meth c H locs cells slots mc ms (F0 m pc ls st0) rest (va_Qr post (fun u r t => B u r t.heap) (fun q => b ≤ q) a) (fun q => b ≤ q)) (hS : gS b H0 H locs)
    (kk : ∀ (u : S) (r : Nat) (H1 : Heap) (locs1 : List Loc), post u → B u r H1 → gS b H0 H1 locs1 → W p l e R s m args below meth c H1 locs1 (cells + mc) (slots + ms) Q (F0 m (pc + 3) ls (.ref r :: rest))) : W p l e R s m args below meth c H locs cells slots Q (F0 m pc ls st0) :=
  va_callr hr hS (fun _ _ h => h) (fun _ h => h) (fun u r t H1 locs1 ht _ hp hb _ _ hS1 => kk u r H1 locs1 hp (ht ▸ hb) hS1)
end GC
end
section
/-! Names of my own: classes, fields, methods, words of the tables. Printed by wip/gen/names.py out of the Statement. -/
def R_MB : String := "MockBook"
def R_Ma : String := "MockBook$Matchers"
def R_Ru : String := "MockBook$Rule"
def R_In : String := "MockBook$Interaction"
def R_AL : String := "java/util/ArrayList"
def R_MM : String := "MockBookModel"
def R_law : String := "MockBookLaw"
def R_Li : String := "java/util/AbstractList"
def R_Co : String := "java/util/AbstractCollection"
def R_Ob : String := "java/lang/Object"
def R_Os : String := "java/util/Objects"
def R_Pc : String := "jdk/internal/util/Preconditions"
def R_As : String := "jdk/internal/util/ArraysSupport"
def R_Ar : String := "java/util/Arrays"
def R_Mt : String := "java/lang/Math"
def R_Sy : String := "java/lang/System"
def F_MB : u_T := fun k => match k with
  | 0 => ("MockBook", "rules", "Ljava/util/ArrayList;", true)
  | 1 => ("MockBook", "interactions", "Ljava/util/ArrayList;", true)
  | 2 => ("MockBook", "strictMocks", "[Z", true)
  | 3 => ("MockBook", "buffer", "LMockBook$Matchers;", false)
  | _ => ("MockBook", "mark", "I", false)
def t_MB : Nat → FieldType := fun k => match k with
  | 0 => .object "java/util/ArrayList"
  | 1 => .object "java/util/ArrayList"
  | 2 => .array .boolean
  | 3 => .object "MockBook$Matchers"
  | _ => .int
theorem n_MB : ∀ a, a < 5 → ∀ b, b < 5 → a ≠ b → (F_MB a).2.1 ≠ (F_MB b).2.1 := by decide +kernel
theorem t_MB_ok : ∀ k, k < 5 → parseFieldDescriptor (F_MB k).2.2.1 = some (t_MB k) := by decide +kernel
def F_Ma : u_T := fun k => match k with
  | 0 => ("MockBook$Matchers", "kinds", "[I", true)
  | 1 => ("MockBook$Matchers", "values", "[I", true)
  | _ => ("MockBook$Matchers", "size", "I", false)
def t_Ma : Nat → FieldType := fun k => match k with
  | 0 => .array .int
  | 1 => .array .int
  | _ => .int
theorem n_Ma : ∀ a, a < 3 → ∀ b, b < 3 → a ≠ b → (F_Ma a).2.1 ≠ (F_Ma b).2.1 := by decide +kernel
theorem t_Ma_ok : ∀ k, k < 3 → parseFieldDescriptor (F_Ma k).2.2.1 = some (t_Ma k) := by decide +kernel
def F_Ru : u_T := fun k => match k with
  | 0 => ("MockBook$Rule", "mock", "I", true)
  | 1 => ("MockBook$Rule", "method", "I", true)
  | 2 => ("MockBook$Rule", "matchers", "LMockBook$Matchers;", true)
  | 3 => ("MockBook$Rule", "actionKinds", "[I", true)
  | 4 => ("MockBook$Rule", "actionValues", "[I", true)
  | 5 => ("MockBook$Rule", "actions", "I", false)
  | 6 => ("MockBook$Rule", "uses", "I", false)
  | _ => ("MockBook$Rule", "live", "Z", false)
def t_Ru : Nat → FieldType := fun k => match k with
  | 0 => .int
  | 1 => .int
  | 2 => .object "MockBook$Matchers"
  | 3 => .array .int
  | 4 => .array .int
  | 5 => .int
  | 6 => .int
  | _ => .boolean
theorem n_Ru : ∀ a, a < 8 → ∀ b, b < 8 → a ≠ b → (F_Ru a).2.1 ≠ (F_Ru b).2.1 := by decide +kernel
theorem t_Ru_ok : ∀ k, k < 8 → parseFieldDescriptor (F_Ru k).2.2.1 = some (t_Ru k) := by decide +kernel
def F_In : u_T := fun k => match k with
  | 0 => ("MockBook$Interaction", "mock", "I", true)
  | 1 => ("MockBook$Interaction", "method", "I", true)
  | 2 => ("MockBook$Interaction", "a", "I", true)
  | 3 => ("MockBook$Interaction", "b", "I", true)
  | 4 => ("MockBook$Interaction", "c", "I", true)
  | 5 => ("MockBook$Interaction", "depth", "I", true)
  | 6 => ("MockBook$Interaction", "from", "I", true)
  | 7 => ("MockBook$Interaction", "ruleNumber", "I", false)
  | 8 => ("MockBook$Interaction", "response", "J", false)
  | 9 => ("MockBook$Interaction", "verified", "Z", false)
  | _ => ("MockBook$Interaction", "live", "Z", false)
def t_In : Nat → FieldType := fun k => match k with
  | 0 => .int
  | 1 => .int
  | 2 => .int
  | 3 => .int
  | 4 => .int
  | 5 => .int
  | 6 => .int
  | 7 => .int
  | 8 => .long
  | 9 => .boolean
  | _ => .boolean
theorem n_In : ∀ a, a < 11 → ∀ b, b < 11 → a ≠ b → (F_In a).2.1 ≠ (F_In b).2.1 := by decide +kernel
theorem t_In_ok : ∀ k, k < 11 → parseFieldDescriptor (F_In k).2.2.1 = some (t_In k) := by decide +kernel
def F_AL : u_T := fun k => match k with
  | 0 => ("java/util/AbstractList", "modCount", "I", false)
  | 1 => ("java/util/ArrayList", "elementData", "[Ljava/lang/Object;", false)
  | _ => ("java/util/ArrayList", "size", "I", false)
def t_AL : Nat → FieldType := fun k => match k with
  | 0 => .int
  | 1 => .array (.object "java/lang/Object")
  | _ => .int
theorem n_AL : ∀ a, a < 3 → ∀ b, b < 3 → a ≠ b → (F_AL a).2.1 ≠ (F_AL b).2.1 := by decide +kernel
theorem t_AL_ok : ∀ k, k < 3 → parseFieldDescriptor (F_AL k).2.2.1 = some (t_AL k) := by decide +kernel
def F_MM : u_T := fun k => match k with
  | 0 => ("MockBookModel", "bufKind", "[I", true)
  | 1 => ("MockBookModel", "bufValue", "[I", true)
  | 2 => ("MockBookModel", "buffered", "I", false)
  | 3 => ("MockBookModel", "rMock", "[I", true)
  | 4 => ("MockBookModel", "rMethod", "[I", true)
  | 5 => ("MockBookModel", "rLive", "[Z", true)
  | 6 => ("MockBookModel", "mKind", "[I", true)
  | 7 => ("MockBookModel", "mValue", "[I", true)
  | 8 => ("MockBookModel", "aKind", "[I", true)
  | 9 => ("MockBookModel", "aValue", "[I", true)
  | 10 => ("MockBookModel", "actions", "[I", true)
  | 11 => ("MockBookModel", "rules", "I", false)
  | 12 => ("MockBookModel", "strict", "[Z", true)
  | 13 => ("MockBookModel", "iMock", "[I", true)
  | 14 => ("MockBookModel", "iMethod", "[I", true)
  | 15 => ("MockBookModel", "args", "[I", true)
  | 16 => ("MockBookModel", "depth", "[I", true)
  | 17 => ("MockBookModel", "from", "[I", true)
  | 18 => ("MockBookModel", "rule", "[I", true)
  | 19 => ("MockBookModel", "result", "[J", true)
  | 20 => ("MockBookModel", "iLive", "[Z", true)
  | 21 => ("MockBookModel", "verified", "[Z", true)
  | 22 => ("MockBookModel", "noted", "I", false)
  | _ => ("MockBookModel", "mark", "I", false)
def t_MM : Nat → FieldType := fun k => match k with
  | 0 => .array .int
  | 1 => .array .int
  | 2 => .int
  | 3 => .array .int
  | 4 => .array .int
  | 5 => .array .boolean
  | 6 => .array .int
  | 7 => .array .int
  | 8 => .array .int
  | 9 => .array .int
  | 10 => .array .int
  | 11 => .int
  | 12 => .array .boolean
  | 13 => .array .int
  | 14 => .array .int
  | 15 => .array .int
  | 16 => .array .int
  | 17 => .array .int
  | 18 => .array .int
  | 19 => .array .long
  | 20 => .array .boolean
  | 21 => .array .boolean
  | 22 => .int
  | _ => .int
theorem n_MM : ∀ a, a < 24 → ∀ b, b < 24 → a ≠ b → (F_MM a).2.1 ≠ (F_MM b).2.1 := by decide +kernel
theorem t_MM_ok : ∀ k, k < 24 → parseFieldDescriptor (F_MM k).2.2.1 = some (t_MM k) := by decide +kernel
abbrev classes : List vw_C := [(R_MB, F_MB, 5), (R_Ma, F_Ma, 3), (R_Ru, F_Ru, 8), (R_In, F_In, 11), (R_AL, F_AL, 3), (R_MM, F_MM, 24)]
abbrev b_MB_init : ByteArray := prog_1_method_1_code
def y_MB_init : MethodName := ⟨R_MB, "<init>", "()V"⟩
abbrev b_Ob_init : ByteArray := object_method_1_code
def y_Ob_init : MethodName := ⟨R_Ob, "<init>", "()V"⟩
abbrev b_AL_init : ByteArray := prog_14_method_2_code
def y_AL_init : MethodName := ⟨R_AL, "<init>", "()V"⟩
abbrev b_Li_init : ByteArray := prog_13_method_1_code
def y_Li_init : MethodName := ⟨R_Li, "<init>", "()V"⟩
abbrev b_Co_init : ByteArray := prog_12_method_1_code
def y_Co_init : MethodName := ⟨R_Co, "<init>", "()V"⟩
abbrev b_Ma_init : ByteArray := prog_3_method_1_code
def y_Ma_init : MethodName := ⟨R_Ma, "<init>", "()V"⟩
abbrev b_MB_matcher : ByteArray := prog_1_method_2_code
def y_MB_matcher : MethodName := ⟨R_MB, "matcher", "(II)I"⟩
abbrev b_MB_isWithin : ByteArray := prog_1_method_18_code
def y_MB_isWithin : MethodName := ⟨R_MB, "isWithin", "(III)Z"⟩
abbrev b_Ma_add : ByteArray := prog_3_method_2_code
def y_Ma_add : MethodName := ⟨R_Ma, "add", "(II)V"⟩
abbrev b_MB_drop : ByteArray := prog_1_method_3_code
def y_MB_drop : MethodName := ⟨R_MB, "drop", "()V"⟩
abbrev b_Ma_clear : ByteArray := prog_3_method_3_code
def y_Ma_clear : MethodName := ⟨R_Ma, "clear", "()V"⟩
abbrev b_MB_rule : ByteArray := prog_1_method_4_code
def y_MB_rule : MethodName := ⟨R_MB, "rule", "(II)I"⟩
abbrev b_MB_isMethod : ByteArray := prog_1_method_20_code
def y_MB_isMethod : MethodName := ⟨R_MB, "isMethod", "(II)Z"⟩
abbrev b_MB_isMock : ByteArray := prog_1_method_19_code
def y_MB_isMock : MethodName := ⟨R_MB, "isMock", "(I)Z"⟩
abbrev b_Ma_suits : ByteArray := prog_3_method_4_code
def y_Ma_suits : MethodName := ⟨R_Ma, "suits", "(I)Z"⟩
abbrev b_MB_argumentsOf : ByteArray := prog_1_method_23_code
def y_MB_argumentsOf : MethodName := ⟨R_MB, "argumentsOf", "(I)I"⟩
abbrev b_AL_size : ByteArray := prog_14_method_8_code
def y_AL_size : MethodName := ⟨R_AL, "size", "()I"⟩
abbrev b_Ru_init : ByteArray := prog_4_method_1_code
def y_Ru_init : MethodName := ⟨R_Ru, "<init>", "(IILMockBook$Matchers;)V"⟩
abbrev b_AL_add : ByteArray := prog_14_method_25_code
def y_AL_add : MethodName := ⟨R_AL, "add", "(Ljava/lang/Object;)Z"⟩
abbrev b_AL_add3 : ByteArray := prog_14_method_24_code
def y_AL_add3 : MethodName := ⟨R_AL, "add", "(Ljava/lang/Object;[Ljava/lang/Object;I)V"⟩
abbrev b_AL_grow : ByteArray := prog_14_method_7_code
def y_AL_grow : MethodName := ⟨R_AL, "grow", "()[Ljava/lang/Object;"⟩
abbrev b_AL_growI : ByteArray := prog_14_method_6_code
def y_AL_growI : MethodName := ⟨R_AL, "grow", "(I)[Ljava/lang/Object;"⟩
abbrev b_As_newLength : ByteArray := prog_21_method_27_code
def y_As_newLength : MethodName := ⟨R_As, "newLength", "(III)I"⟩
abbrev b_Mt_max : ByteArray := prog_10_method_65_code
def y_Mt_max : MethodName := ⟨R_Mt, "max", "(II)I"⟩
abbrev b_As_hugeLength : ByteArray := prog_21_method_28_code
def y_As_hugeLength : MethodName := ⟨R_As, "hugeLength", "(II)I"⟩
abbrev b_Ar_copyOf : ByteArray := prog_15_method_119_code
def y_Ar_copyOf : MethodName := ⟨R_Ar, "copyOf", "([Ljava/lang/Object;I)[Ljava/lang/Object;"⟩
abbrev b_Ar_copyOf3 : ByteArray := prog_15_method_120_code
def y_Ar_copyOf3 : MethodName := ⟨R_Ar, "copyOf", "([Ljava/lang/Object;ILjava/lang/Class;)[Ljava/lang/Object;"⟩
abbrev b_Mt_min : ByteArray := prog_10_method_69_code
def y_Mt_min : MethodName := ⟨R_Mt, "min", "(II)I"⟩
abbrev b_MB_then : ByteArray := prog_1_method_5_code
def y_MB_then : MethodName := ⟨R_MB, "then", "(III)I"⟩
abbrev b_MB_isRule : ByteArray := prog_1_method_21_code
def y_MB_isRule : MethodName := ⟨R_MB, "isRule", "(I)Z"⟩
abbrev b_AL_get : ByteArray := prog_14_method_20_code
def y_AL_get : MethodName := ⟨R_AL, "get", "(I)Ljava/lang/Object;"⟩
abbrev b_Os_checkIndex : ByteArray := prog_18_method_17_code
def y_Os_checkIndex : MethodName := ⟨R_Os, "checkIndex", "(II)I"⟩
abbrev b_Pc_checkIndex : ByteArray := prog_22_method_11_code
def y_Pc_checkIndex : MethodName := ⟨R_Pc, "checkIndex", "(IILjava/util/function/BiFunction;)I"⟩
abbrev b_AL_elementData : ByteArray := prog_14_method_18_code
def y_AL_elementData : MethodName := ⟨R_AL, "elementData", "(I)Ljava/lang/Object;"⟩
abbrev b_Ru_allows : ByteArray := prog_4_method_3_code
def y_Ru_allows : MethodName := ⟨R_Ru, "allows", "(II)Z"⟩
abbrev b_Ru_addAction : ByteArray := prog_4_method_4_code
def y_Ru_addAction : MethodName := ⟨R_Ru, "addAction", "(II)V"⟩
abbrev b_MB_strict : ByteArray := prog_1_method_6_code
def y_MB_strict : MethodName := ⟨R_MB, "strict", "(IZ)I"⟩
abbrev b_MB_asNumber : ByteArray := prog_1_method_24_code
def y_MB_asNumber : MethodName := ⟨R_MB, "asNumber", "(Z)I"⟩
abbrev b_MB_call : ByteArray := prog_1_method_7_code
def y_MB_call : MethodName := ⟨R_MB, "call", "(IIIII)J"⟩
abbrev b_MB_noteAndRespond : ByteArray := prog_1_method_25_code
def y_MB_noteAndRespond : MethodName := ⟨R_MB, "noteAndRespond", "(IIIIIII)J"⟩
abbrev b_In_init : ByteArray := prog_2_method_1_code
def y_In_init : MethodName := ⟨R_In, "<init>", "(IIIIIII)V"⟩
abbrev b_MB_ruleNumberFor : ByteArray := prog_1_method_28_code
def y_MB_ruleNumberFor : MethodName := ⟨R_MB, "ruleNumberFor", "(LMockBook$Interaction;)I"⟩
abbrev b_Ru_answersTo : ByteArray := prog_4_method_2_code
def y_Ru_answersTo : MethodName := ⟨R_Ru, "answersTo", "(LMockBook$Interaction;)Z"⟩
abbrev b_Ma_fit : ByteArray := prog_3_method_5_code
def y_Ma_fit : MethodName := ⟨R_Ma, "fit", "(LMockBook$Interaction;)Z"⟩
abbrev b_In_argument : ByteArray := prog_2_method_2_code
def y_In_argument : MethodName := ⟨R_In, "argument", "(I)I"⟩
abbrev b_Ma_fitsOne : ByteArray := prog_3_method_6_code
def y_Ma_fitsOne : MethodName := ⟨R_Ma, "fitsOne", "(III)Z"⟩
abbrev b_Mt_floorMod : ByteArray := prog_10_method_50_code
def y_Mt_floorMod : MethodName := ⟨R_Mt, "floorMod", "(II)I"⟩
abbrev b_MB_respond : ByteArray := prog_1_method_26_code
def y_MB_respond : MethodName := ⟨R_MB, "respond", "(LMockBook$Interaction;II)J"⟩
abbrev b_Ru_placeInTurn : ByteArray := prog_4_method_5_code
def y_Ru_placeInTurn : MethodName := ⟨R_Ru, "placeInTurn", "()I"⟩
abbrev b_MB_pass : ByteArray := prog_1_method_27_code
def y_MB_pass : MethodName := ⟨R_MB, "pass", "(LMockBook$Interaction;III)J"⟩
abbrev b_MB_verify : ByteArray := prog_1_method_8_code
def y_MB_verify : MethodName := ⟨R_MB, "verify", "(IIII)I"⟩
abbrev b_MB_countSought : ByteArray := prog_1_method_30_code
def y_MB_countSought : MethodName := ⟨R_MB, "countSought", "(II)I"⟩
abbrev b_MB_isSought : ByteArray := prog_1_method_29_code
def y_MB_isSought : MethodName := ⟨R_MB, "isSought", "(LMockBook$Interaction;II)Z"⟩
abbrev b_MB_isWanted : ByteArray := prog_1_method_33_code
def y_MB_isWanted : MethodName := ⟨R_MB, "isWanted", "(III)Z"⟩
abbrev b_MB_verifySought : ByteArray := prog_1_method_31_code
def y_MB_verifySought : MethodName := ⟨R_MB, "verifySought", "(II)V"⟩
abbrev b_MB_inOrder : ByteArray := prog_1_method_9_code
def y_MB_inOrder : MethodName := ⟨R_MB, "inOrder", "(II)I"⟩
abbrev b_MB_firstSoughtAfterMark : ByteArray := prog_1_method_32_code
def y_MB_firstSoughtAfterMark : MethodName := ⟨R_MB, "firstSoughtAfterMark", "(II)I"⟩
abbrev b_MB_rewind : ByteArray := prog_1_method_10_code
def y_MB_rewind : MethodName := ⟨R_MB, "rewind", "()I"⟩
abbrev b_MB_open : ByteArray := prog_1_method_11_code
def y_MB_open : MethodName := ⟨R_MB, "open", "(I)I"⟩
abbrev b_MB_unused : ByteArray := prog_1_method_12_code
def y_MB_unused : MethodName := ⟨R_MB, "unused", "()I"⟩
abbrev b_MB_reset : ByteArray := prog_1_method_13_code
def y_MB_reset : MethodName := ⟨R_MB, "reset", "(I)I"⟩
abbrev b_MB_endRules : ByteArray := prog_1_method_34_code
def y_MB_endRules : MethodName := ⟨R_MB, "endRules", "(I)V"⟩
abbrev b_MB_endInteractions : ByteArray := prog_1_method_35_code
def y_MB_endInteractions : MethodName := ⟨R_MB, "endInteractions", "(I)I"⟩
abbrev b_MB_noted : ByteArray := prog_1_method_14_code
def y_MB_noted : MethodName := ⟨R_MB, "noted", "(II)J"⟩
abbrev b_MB_isInteraction : ByteArray := prog_1_method_22_code
def y_MB_isInteraction : MethodName := ⟨R_MB, "isInteraction", "(I)Z"⟩
abbrev b_MB_answer : ByteArray := prog_1_method_15_code
def y_MB_answer : MethodName := ⟨R_MB, "answer", "(I)J"⟩
abbrev b_MB_about : ByteArray := prog_1_method_16_code
def y_MB_about : MethodName := ⟨R_MB, "about", "(II)I"⟩
abbrev b_MB_count : ByteArray := prog_1_method_17_code
def y_MB_count : MethodName := ⟨R_MB, "count", "(I)I"⟩
abbrev b_MB_countLiveInteractions : ByteArray := prog_1_method_36_code
def y_MB_countLiveInteractions : MethodName := ⟨R_MB, "countLiveInteractions", "(Z)I"⟩
abbrev b_MB_countLiveRules : ByteArray := prog_1_method_37_code
def y_MB_countLiveRules : MethodName := ⟨R_MB, "countLiveRules", "()I"⟩
abbrev b_MM_init : ByteArray := prog_6_method_1_code
def y_MM_init : MethodName := ⟨R_MM, "<init>", "()V"⟩
abbrev b_MM_matcher : ByteArray := prog_6_method_4_code
def y_MM_matcher : MethodName := ⟨R_MM, "matcher", "(II)I"⟩
abbrev b_MM_drop : ByteArray := prog_6_method_5_code
def y_MM_drop : MethodName := ⟨R_MM, "drop", "()V"⟩
abbrev b_MM_rule : ByteArray := prog_6_method_6_code
def y_MM_rule : MethodName := ⟨R_MM, "rule", "(II)I"⟩
abbrev b_MM_bad : ByteArray := prog_6_method_2_code
def y_MM_bad : MethodName := ⟨R_MM, "bad", "(II)Z"⟩
abbrev b_MM_then : ByteArray := prog_6_method_7_code
def y_MM_then : MethodName := ⟨R_MM, "then", "(III)I"⟩
abbrev b_MM_strict : ByteArray := prog_6_method_8_code
def y_MM_strict : MethodName := ⟨R_MM, "strict", "(IZ)I"⟩
abbrev b_MM_call : ByteArray := prog_6_method_14_code
def y_MM_call : MethodName := ⟨R_MM, "call", "(IIIII)J"⟩
abbrev b_MM_note : ByteArray := prog_6_method_11_code
def y_MM_note : MethodName := ⟨R_MM, "note", "(IIII)I"⟩
abbrev b_MM_action : ByteArray := prog_6_method_12_code
def y_MM_action : MethodName := ⟨R_MM, "action", "(I)I"⟩
abbrev b_MM_ruleFits : ByteArray := prog_6_method_9_code
def y_MM_ruleFits : MethodName := ⟨R_MM, "ruleFits", "(II)Z"⟩
abbrev b_MM_fits : ByteArray := prog_6_method_3_code
def y_MM_fits : MethodName := ⟨R_MM, "fits", "(III)Z"⟩
abbrev b_MM_uses : ByteArray := prog_6_method_10_code
def y_MM_uses : MethodName := ⟨R_MM, "uses", "(II)I"⟩
abbrev b_MM_plain : ByteArray := prog_6_method_13_code
def y_MM_plain : MethodName := ⟨R_MM, "plain", "(II)J"⟩
abbrev b_MM_verify : ByteArray := prog_6_method_16_code
def y_MM_verify : MethodName := ⟨R_MM, "verify", "(IIII)I"⟩
abbrev b_MM_asked : ByteArray := prog_6_method_15_code
def y_MM_asked : MethodName := ⟨R_MM, "asked", "(III)Z"⟩
abbrev b_MM_inOrder : ByteArray := prog_6_method_17_code
def y_MM_inOrder : MethodName := ⟨R_MM, "inOrder", "(II)I"⟩
abbrev b_MM_rewind : ByteArray := prog_6_method_18_code
def y_MM_rewind : MethodName := ⟨R_MM, "rewind", "()I"⟩
abbrev b_MM_open : ByteArray := prog_6_method_19_code
def y_MM_open : MethodName := ⟨R_MM, "open", "(I)I"⟩
abbrev b_MM_unused : ByteArray := prog_6_method_20_code
def y_MM_unused : MethodName := ⟨R_MM, "unused", "()I"⟩
abbrev b_MM_reset : ByteArray := prog_6_method_21_code
def y_MM_reset : MethodName := ⟨R_MM, "reset", "(I)I"⟩
abbrev b_MM_noted : ByteArray := prog_6_method_22_code
def y_MM_noted : MethodName := ⟨R_MM, "noted", "(II)J"⟩
abbrev b_MM_answer : ByteArray := prog_6_method_23_code
def y_MM_answer : MethodName := ⟨R_MM, "answer", "(I)J"⟩
abbrev b_MM_about : ByteArray := prog_6_method_24_code
def y_MM_about : MethodName := ⟨R_MM, "about", "(II)I"⟩
abbrev b_MM_count : ByteArray := prog_6_method_25_code
def y_MM_count : MethodName := ⟨R_MM, "count", "(I)I"⟩
/-- the words that stay true whatever a method does -/
def TT : List Cond := lw_tbl.filter goodWord
theorem TT_good : ∀ w ∈ TT, goodWord w = true := fun w h => (List.mem_filter.mp h).2
theorem TT_tbl : ∀ w ∈ TT, w ∈ lw_tbl := fun w h => (List.mem_filter.mp h).1
theorem TT_at {w : Cond} (i : Nat) (h : lw_tbl[i]? = some w) (g : goodWord w = true) : w ∈ TT := List.mem_filter.mpr ⟨List.mem_of_getElem? h, g⟩
def gNW : List Cond := [.methodLinkNest R_MB 25 y_Ma_init R_MB, .methodLinkNest R_Ma 22 y_MB_argumentsOf R_MB, .methodLinkNest R_Ru 49 y_MB_argumentsOf R_MB, .methodLinkNest R_Ru 53 y_MB_isWithin R_MB, .methodLinkNest R_In 28 y_MB_argumentsOf R_MB, .castable R_Ru R_Ru, .castable R_In R_In, .castable R_MB R_Ob, .castable R_Ma R_Ob, .castable R_MM R_Ob, .castable R_Ru R_Ob, .castable R_In R_Ob]
theorem k_0 : Cond.initialized R_law ∈ TT := TT_at 23 (by decide +kernel) (by decide +kernel)
theorem k_1 : Cond.initialized R_MB ∈ TT := TT_at 24 (by decide +kernel) (by decide +kernel)
theorem k_2 : Cond.initialized R_Co ∈ TT := TT_at 25 (by decide +kernel) (by decide +kernel)
theorem k_3 : Cond.initialized R_Li ∈ TT := TT_at 26 (by decide +kernel) (by decide +kernel)
theorem k_4 : Cond.initialized R_AL ∈ TT := TT_at 27 (by decide +kernel) (by decide +kernel)
theorem k_5 : Cond.initialized R_Ma ∈ TT := TT_at 28 (by decide +kernel) (by decide +kernel)
theorem k_6 : Cond.initialized R_MM ∈ TT := TT_at 29 (by decide +kernel) (by decide +kernel)
theorem k_7 : Cond.initialized R_Ru ∈ TT := TT_at 30 (by decide +kernel) (by decide +kernel)
theorem k_8 : Cond.initialized R_As ∈ TT := TT_at 31 (by decide +kernel) (by decide +kernel)
theorem k_9 : Cond.initialized R_Mt ∈ TT := TT_at 32 (by decide +kernel) (by decide +kernel)
theorem k_10 : Cond.initialized R_Ar ∈ TT := TT_at 33 (by decide +kernel) (by decide +kernel)
theorem k_11 : Cond.initialized R_Sy ∈ TT := TT_at 34 (by decide +kernel) (by decide +kernel)
theorem k_12 : Cond.initialized R_Os ∈ TT := TT_at 35 (by decide +kernel) (by decide +kernel)
theorem k_13 : Cond.initialized R_Pc ∈ TT := TT_at 36 (by decide +kernel) (by decide +kernel)
theorem k_14 : Cond.initialized R_In ∈ TT := TT_at 37 (by decide +kernel) (by decide +kernel)
theorem k_15 : Cond.classLink R_law 7 R_MB ∈ TT := TT_at 38 (by decide +kernel) (by decide +kernel)
theorem k_16 : Cond.instantiable R_MB 5 ∈ TT := TT_at 39 (by decide +kernel) (by decide +kernel)
theorem k_17 : Cond.methodLink R_law 9 y_MB_init ∈ TT := TT_at 40 (by decide +kernel) (by decide +kernel)
theorem k_18 : Cond.instanceMethod y_MB_init ∈ TT := TT_at 41 (by decide +kernel) (by decide +kernel)
set_option maxRecDepth 20000 in
theorem k_19 : Cond.code y_MB_init b_MB_init 1 none ∈ TT := TT_at 42 rfl rfl
theorem k_20 : Cond.methodLink R_MB 1 y_Ob_init ∈ TT := TT_at 43 (by decide +kernel) (by decide +kernel)
theorem k_21 : Cond.instanceMethod y_Ob_init ∈ TT := TT_at 44 (by decide +kernel) (by decide +kernel)
set_option maxRecDepth 20000 in
theorem k_22 : Cond.code y_Ob_init b_Ob_init 1 none ∈ TT := TT_at 45 rfl rfl
theorem k_23 : Cond.classLink R_MB 7 R_AL ∈ TT := TT_at 46 (by decide +kernel) (by decide +kernel)
theorem k_24 : Cond.instantiable R_AL 3 ∈ TT := TT_at 47 (by decide +kernel) (by decide +kernel)
theorem k_25 : Cond.methodLink R_MB 9 y_AL_init ∈ TT := TT_at 48 (by decide +kernel) (by decide +kernel)
theorem k_26 : Cond.instanceMethod y_AL_init ∈ TT := TT_at 49 (by decide +kernel) (by decide +kernel)
set_option maxRecDepth 20000 in
theorem k_27 : Cond.code y_AL_init b_AL_init 1 none ∈ TT := TT_at 50 rfl rfl
theorem k_28 : Cond.methodLink R_AL 1 y_Li_init ∈ TT := TT_at 51 (by decide +kernel) (by decide +kernel)
theorem k_29 : Cond.instanceMethod y_Li_init ∈ TT := TT_at 52 (by decide +kernel) (by decide +kernel)
set_option maxRecDepth 20000 in
theorem k_30 : Cond.code y_Li_init b_Li_init 1 none ∈ TT := TT_at 53 rfl rfl
theorem k_31 : Cond.methodLink R_Li 1 y_Co_init ∈ TT := TT_at 54 (by decide +kernel) (by decide +kernel)
theorem k_32 : Cond.instanceMethod y_Co_init ∈ TT := TT_at 55 (by decide +kernel) (by decide +kernel)
set_option maxRecDepth 20000 in
theorem k_33 : Cond.code y_Co_init b_Co_init 1 none ∈ TT := TT_at 56 rfl rfl
theorem k_34 : Cond.methodLink R_Co 1 y_Ob_init ∈ TT := TT_at 57 (by decide +kernel) (by decide +kernel)
theorem k_35 : Cond.fieldLink R_AL 39 "java/util/ArrayList" "DEFAULTCAPACITY_EMPTY_ELEMENTDATA" "[Ljava/lang/Object;" ∈ TT := TT_at 58 (by decide +kernel) (by decide +kernel)
theorem k_37 : Cond.fieldLink R_AL 9 "java/util/ArrayList" "elementData" "[Ljava/lang/Object;" ∈ TT := TT_at 60 (by decide +kernel) (by decide +kernel)
theorem k_38 : Cond.fieldLink R_AL 48 "java/util/ArrayList" "size" "I" ∈ TT := TT_at 61 (by decide +kernel) (by decide +kernel)
theorem k_39 : Cond.fieldLink R_Li 7 "java/util/AbstractList" "modCount" "I" ∈ TT := TT_at 62 (by decide +kernel) (by decide +kernel)
theorem k_40 : Cond.fieldLink R_AL 63 "java/util/ArrayList" "modCount" "I" ∈ TT := TT_at 63 (by decide +kernel) (by decide +kernel)
theorem k_41 : Cond.sameField "java/util/ArrayList" "java/util/AbstractList" "modCount" "I" ∈ TT := TT_at 64 (by decide +kernel) (by decide +kernel)
theorem k_49 : Cond.classLink R_MB 23 R_Ma ∈ TT := TT_at 72 (by decide +kernel) (by decide +kernel)
theorem k_50 : Cond.instantiable R_Ma 3 ∈ TT := TT_at 73 (by decide +kernel) (by decide +kernel)
theorem k_52 : Cond.instanceMethod y_Ma_init ∈ TT := TT_at 75 (by decide +kernel) (by decide +kernel)
set_option maxRecDepth 20000 in
theorem k_53 : Cond.code y_Ma_init b_Ma_init 1 none ∈ TT := TT_at 76 rfl rfl
theorem k_54 : Cond.methodLink R_Ma 3 y_Ob_init ∈ TT := TT_at 77 (by decide +kernel) (by decide +kernel)
theorem k_55 : Cond.fieldLink R_Ma 9 "MockBook$Matchers" "kinds" "[I" ∈ TT := TT_at 78 (by decide +kernel) (by decide +kernel)
theorem k_56 : Cond.fieldLink R_Ma 15 "MockBook$Matchers" "values" "[I" ∈ TT := TT_at 79 (by decide +kernel) (by decide +kernel)
theorem k_57 : Cond.fieldLink R_Ma 18 "MockBook$Matchers" "size" "I" ∈ TT := TT_at 80 (by decide +kernel) (by decide +kernel)
theorem k_58 : Cond.fieldLink R_MB 38 "MockBook$Matchers" "size" "I" ∈ TT := TT_at 81 (by decide +kernel) (by decide +kernel)
theorem k_66 : Cond.arrayClass .boolean ∈ TT := TT_at 89 (by decide +kernel) (by decide +kernel)
theorem k_67 : Cond.arrayClass .int ∈ TT := TT_at 90 (by decide +kernel) (by decide +kernel)
theorem k_68 : Cond.fieldLink R_MB 10 "MockBook" "rules" "Ljava/util/ArrayList;" ∈ TT := TT_at 91 (by decide +kernel) (by decide +kernel)
theorem k_69 : Cond.fieldLink R_MB 16 "MockBook" "interactions" "Ljava/util/ArrayList;" ∈ TT := TT_at 92 (by decide +kernel) (by decide +kernel)
theorem k_70 : Cond.fieldLink R_MB 19 "MockBook" "strictMocks" "[Z" ∈ TT := TT_at 93 (by decide +kernel) (by decide +kernel)
theorem k_71 : Cond.fieldLink R_MB 26 "MockBook" "buffer" "LMockBook$Matchers;" ∈ TT := TT_at 94 (by decide +kernel) (by decide +kernel)
theorem k_72 : Cond.fieldLink R_MB 30 "MockBook" "mark" "I" ∈ TT := TT_at 95 (by decide +kernel) (by decide +kernel)
theorem k_84 : Cond.methodLink R_law 13 y_MB_matcher ∈ TT := TT_at 107 (by decide +kernel) (by decide +kernel)
theorem k_85 : Cond.instanceMethod y_MB_matcher ∈ TT := TT_at 108 (by decide +kernel) (by decide +kernel)
theorem k_86 : Cond.selects R_MB y_MB_matcher y_MB_matcher ∈ TT := TT_at 109 (by decide +kernel) (by decide +kernel)
set_option maxRecDepth 20000 in
theorem k_87 : Cond.code y_MB_matcher b_MB_matcher 3 (some .int) ∈ TT := TT_at 110 rfl rfl
theorem k_88 : Cond.methodLink R_MB 34 y_MB_isWithin ∈ TT := TT_at 111 (by decide +kernel) (by decide +kernel)
theorem k_89 : Cond.static y_MB_isWithin ∈ TT := TT_at 112 (by decide +kernel) (by decide +kernel)
set_option maxRecDepth 20000 in
theorem k_90 : Cond.code y_MB_isWithin b_MB_isWithin 3 (some .boolean) ∈ TT := TT_at 113 rfl rfl
theorem k_91 : Cond.methodLink R_MB 41 y_Ma_add ∈ TT := TT_at 114 (by decide +kernel) (by decide +kernel)
theorem k_92 : Cond.instanceMethod y_Ma_add ∈ TT := TT_at 115 (by decide +kernel) (by decide +kernel)
theorem k_93 : Cond.selects R_Ma y_Ma_add y_Ma_add ∈ TT := TT_at 116 (by decide +kernel) (by decide +kernel)
set_option maxRecDepth 20000 in
theorem k_94 : Cond.code y_Ma_add b_Ma_add 3 none ∈ TT := TT_at 117 rfl rfl
theorem k_95 : Cond.methodLink R_law 18 y_MB_drop ∈ TT := TT_at 118 (by decide +kernel) (by decide +kernel)
theorem k_96 : Cond.instanceMethod y_MB_drop ∈ TT := TT_at 119 (by decide +kernel) (by decide +kernel)
theorem k_97 : Cond.selects R_MB y_MB_drop y_MB_drop ∈ TT := TT_at 120 (by decide +kernel) (by decide +kernel)
set_option maxRecDepth 20000 in
theorem k_98 : Cond.code y_MB_drop b_MB_drop 1 none ∈ TT := TT_at 121 rfl rfl
theorem k_99 : Cond.methodLink R_MB 45 y_Ma_clear ∈ TT := TT_at 122 (by decide +kernel) (by decide +kernel)
theorem k_100 : Cond.instanceMethod y_Ma_clear ∈ TT := TT_at 123 (by decide +kernel) (by decide +kernel)
theorem k_101 : Cond.selects R_Ma y_Ma_clear y_Ma_clear ∈ TT := TT_at 124 (by decide +kernel) (by decide +kernel)
set_option maxRecDepth 20000 in
theorem k_102 : Cond.code y_Ma_clear b_Ma_clear 1 none ∈ TT := TT_at 125 rfl rfl
theorem k_103 : Cond.methodLink R_law 22 y_MB_rule ∈ TT := TT_at 126 (by decide +kernel) (by decide +kernel)
theorem k_104 : Cond.instanceMethod y_MB_rule ∈ TT := TT_at 127 (by decide +kernel) (by decide +kernel)
theorem k_105 : Cond.selects R_MB y_MB_rule y_MB_rule ∈ TT := TT_at 128 (by decide +kernel) (by decide +kernel)
set_option maxRecDepth 20000 in
theorem k_106 : Cond.code y_MB_rule b_MB_rule 3 (some .int) ∈ TT := TT_at 129 rfl rfl
theorem k_107 : Cond.methodLink R_MB 48 y_MB_isMethod ∈ TT := TT_at 130 (by decide +kernel) (by decide +kernel)
theorem k_108 : Cond.static y_MB_isMethod ∈ TT := TT_at 131 (by decide +kernel) (by decide +kernel)
set_option maxRecDepth 20000 in
theorem k_109 : Cond.code y_MB_isMethod b_MB_isMethod 2 (some .boolean) ∈ TT := TT_at 132 rfl rfl
theorem k_110 : Cond.methodLink R_MB 87 y_MB_isMock ∈ TT := TT_at 133 (by decide +kernel) (by decide +kernel)
theorem k_111 : Cond.static y_MB_isMock ∈ TT := TT_at 134 (by decide +kernel) (by decide +kernel)
set_option maxRecDepth 20000 in
theorem k_112 : Cond.code y_MB_isMock b_MB_isMock 1 (some .boolean) ∈ TT := TT_at 135 rfl rfl
theorem k_113 : Cond.methodLink R_MB 52 y_Ma_suits ∈ TT := TT_at 136 (by decide +kernel) (by decide +kernel)
theorem k_114 : Cond.instanceMethod y_Ma_suits ∈ TT := TT_at 137 (by decide +kernel) (by decide +kernel)
theorem k_115 : Cond.selects R_Ma y_Ma_suits y_Ma_suits ∈ TT := TT_at 138 (by decide +kernel) (by decide +kernel)
set_option maxRecDepth 20000 in
theorem k_116 : Cond.code y_Ma_suits b_Ma_suits 2 (some .boolean) ∈ TT := TT_at 139 rfl rfl
theorem k_118 : Cond.static y_MB_argumentsOf ∈ TT := TT_at 141 (by decide +kernel) (by decide +kernel)
set_option maxRecDepth 20000 in
theorem k_119 : Cond.code y_MB_argumentsOf b_MB_argumentsOf 1 (some .int) ∈ TT := TT_at 142 rfl rfl
theorem k_120 : Cond.methodLink R_MB 56 y_AL_size ∈ TT := TT_at 143 (by decide +kernel) (by decide +kernel)
theorem k_121 : Cond.instanceMethod y_AL_size ∈ TT := TT_at 144 (by decide +kernel) (by decide +kernel)
theorem k_122 : Cond.selects R_AL y_AL_size y_AL_size ∈ TT := TT_at 145 (by decide +kernel) (by decide +kernel)
set_option maxRecDepth 20000 in
theorem k_123 : Cond.code y_AL_size b_AL_size 1 (some .int) ∈ TT := TT_at 146 rfl rfl
theorem k_124 : Cond.classLink R_MB 59 R_Ru ∈ TT := TT_at 147 (by decide +kernel) (by decide +kernel)
theorem k_125 : Cond.instantiable R_Ru 8 ∈ TT := TT_at 148 (by decide +kernel) (by decide +kernel)
theorem k_126 : Cond.methodLink R_MB 61 y_Ru_init ∈ TT := TT_at 149 (by decide +kernel) (by decide +kernel)
theorem k_127 : Cond.instanceMethod y_Ru_init ∈ TT := TT_at 150 (by decide +kernel) (by decide +kernel)
set_option maxRecDepth 20000 in
theorem k_128 : Cond.code y_Ru_init b_Ru_init 4 none ∈ TT := TT_at 151 rfl rfl
theorem k_129 : Cond.methodLink R_Ru 3 y_Ob_init ∈ TT := TT_at 152 (by decide +kernel) (by decide +kernel)
theorem k_130 : Cond.fieldLink R_Ru 29 "MockBook$Rule" "mock" "I" ∈ TT := TT_at 153 (by decide +kernel) (by decide +kernel)
theorem k_131 : Cond.fieldLink R_MB 212 "MockBook$Rule" "mock" "I" ∈ TT := TT_at 154 (by decide +kernel) (by decide +kernel)
theorem k_132 : Cond.fieldLink R_Ru 32 "MockBook$Rule" "method" "I" ∈ TT := TT_at 155 (by decide +kernel) (by decide +kernel)
theorem k_133 : Cond.fieldLink R_Ru 35 "MockBook$Rule" "matchers" "LMockBook$Matchers;" ∈ TT := TT_at 156 (by decide +kernel) (by decide +kernel)
theorem k_134 : Cond.fieldLink R_Ru 9 "MockBook$Rule" "actionKinds" "[I" ∈ TT := TT_at 157 (by decide +kernel) (by decide +kernel)
theorem k_135 : Cond.fieldLink R_MB 189 "MockBook$Rule" "actionKinds" "[I" ∈ TT := TT_at 158 (by decide +kernel) (by decide +kernel)
theorem k_136 : Cond.fieldLink R_Ru 15 "MockBook$Rule" "actionValues" "[I" ∈ TT := TT_at 159 (by decide +kernel) (by decide +kernel)
theorem k_137 : Cond.fieldLink R_MB 185 "MockBook$Rule" "actionValues" "[I" ∈ TT := TT_at 160 (by decide +kernel) (by decide +kernel)
theorem k_138 : Cond.fieldLink R_Ru 18 "MockBook$Rule" "actions" "I" ∈ TT := TT_at 161 (by decide +kernel) (by decide +kernel)
theorem k_139 : Cond.fieldLink R_MB 81 "MockBook$Rule" "actions" "I" ∈ TT := TT_at 162 (by decide +kernel) (by decide +kernel)
theorem k_140 : Cond.fieldLink R_Ru 22 "MockBook$Rule" "uses" "I" ∈ TT := TT_at 163 (by decide +kernel) (by decide +kernel)
theorem k_141 : Cond.fieldLink R_MB 122 "MockBook$Rule" "uses" "I" ∈ TT := TT_at 164 (by decide +kernel) (by decide +kernel)
theorem k_142 : Cond.fieldLink R_Ru 25 "MockBook$Rule" "live" "Z" ∈ TT := TT_at 165 (by decide +kernel) (by decide +kernel)
theorem k_143 : Cond.fieldLink R_MB 74 "MockBook$Rule" "live" "Z" ∈ TT := TT_at 166 (by decide +kernel) (by decide +kernel)
theorem k_161 : Cond.methodLink R_MB 64 y_AL_add ∈ TT := TT_at 184 (by decide +kernel) (by decide +kernel)
theorem k_162 : Cond.instanceMethod y_AL_add ∈ TT := TT_at 185 (by decide +kernel) (by decide +kernel)
theorem k_163 : Cond.selects R_AL y_AL_add y_AL_add ∈ TT := TT_at 186 (by decide +kernel) (by decide +kernel)
set_option maxRecDepth 20000 in
theorem k_164 : Cond.code y_AL_add b_AL_add 2 (some .boolean) ∈ TT := TT_at 187 rfl rfl
theorem k_165 : Cond.methodLink R_AL 131 y_AL_add3 ∈ TT := TT_at 188 (by decide +kernel) (by decide +kernel)
theorem k_167 : Cond.instanceMethod y_AL_add3 ∈ TT := TT_at 190 (by decide +kernel) (by decide +kernel)
set_option maxRecDepth 20000 in
theorem k_168 : Cond.code y_AL_add3 b_AL_add3 4 none ∈ TT := TT_at 191 rfl rfl
theorem k_169 : Cond.methodLink R_AL 129 y_AL_grow ∈ TT := TT_at 192 (by decide +kernel) (by decide +kernel)
theorem k_171 : Cond.instanceMethod y_AL_grow ∈ TT := TT_at 194 (by decide +kernel) (by decide +kernel)
set_option maxRecDepth 20000 in
theorem k_172 : Cond.code y_AL_grow b_AL_grow 1 (some (.array (.object "java/lang/Object"))) ∈ TT := TT_at 195 rfl rfl
theorem k_173 : Cond.methodLink R_AL 69 y_AL_growI ∈ TT := TT_at 196 (by decide +kernel) (by decide +kernel)
theorem k_175 : Cond.instanceMethod y_AL_growI ∈ TT := TT_at 198 (by decide +kernel) (by decide +kernel)
set_option maxRecDepth 20000 in
theorem k_176 : Cond.code y_AL_growI b_AL_growI 4 (some (.array (.object "java/lang/Object"))) ∈ TT := TT_at 199 rfl rfl
theorem k_177 : Cond.methodLink R_AL 73 y_As_newLength ∈ TT := TT_at 200 (by decide +kernel) (by decide +kernel)
theorem k_178 : Cond.static y_As_newLength ∈ TT := TT_at 201 (by decide +kernel) (by decide +kernel)
set_option maxRecDepth 20000 in
theorem k_179 : Cond.code y_As_newLength b_As_newLength 4 (some .int) ∈ TT := TT_at 202 rfl rfl
theorem k_180 : Cond.methodLink R_As 194 y_Mt_max ∈ TT := TT_at 203 (by decide +kernel) (by decide +kernel)
theorem k_181 : Cond.static y_Mt_max ∈ TT := TT_at 204 (by decide +kernel) (by decide +kernel)
set_option maxRecDepth 20000 in
theorem k_182 : Cond.code y_Mt_max b_Mt_max 2 (some .int) ∈ TT := TT_at 205 rfl rfl
theorem k_183 : Cond.constant R_As 200 2147483639 ∈ TT := TT_at 206 (by decide +kernel) (by decide +kernel)
theorem k_184 : Cond.methodLink R_As 201 y_As_hugeLength ∈ TT := TT_at 207 (by decide +kernel) (by decide +kernel)
theorem k_185 : Cond.static y_As_hugeLength ∈ TT := TT_at 208 (by decide +kernel) (by decide +kernel)
set_option maxRecDepth 20000 in
theorem k_186 : Cond.code y_As_hugeLength b_As_hugeLength 3 (some .int) ∈ TT := TT_at 209 rfl rfl
theorem k_187 : Cond.methodLink R_AL 66 y_Ar_copyOf ∈ TT := TT_at 210 (by decide +kernel) (by decide +kernel)
theorem k_188 : Cond.static y_Ar_copyOf ∈ TT := TT_at 211 (by decide +kernel) (by decide +kernel)
set_option maxRecDepth 20000 in
theorem k_189 : Cond.code y_Ar_copyOf b_Ar_copyOf 2 (some (.array (.object "java/lang/Object"))) ∈ TT := TT_at 212 rfl rfl
theorem k_190 : Cond.methodLink R_Ar 86 ⟨"java/lang/Object", "getClass", "()Ljava/lang/Class;"⟩ ∈ TT := TT_at 213 (by decide +kernel) (by decide +kernel)
theorem k_191 : Cond.instanceMethod ⟨"java/lang/Object", "getClass", "()Ljava/lang/Class;"⟩ ∈ TT := TT_at 214 (by decide +kernel) (by decide +kernel)
theorem k_199 : Cond.native ⟨"java/lang/Object", "getClass", "()Ljava/lang/Class;"⟩ ∈ TT := TT_at 222 (by decide +kernel) (by decide +kernel)
theorem k_200 : Cond.methodLink R_Ar 300 y_Ar_copyOf3 ∈ TT := TT_at 223 (by decide +kernel) (by decide +kernel)
theorem k_201 : Cond.static y_Ar_copyOf3 ∈ TT := TT_at 224 (by decide +kernel) (by decide +kernel)
set_option maxRecDepth 20000 in
theorem k_202 : Cond.code y_Ar_copyOf3 b_Ar_copyOf3 4 (some (.array (.object "java/lang/Object"))) ∈ TT := TT_at 225 rfl rfl
theorem k_203 : Cond.classLink R_Ar 110 "[Ljava/lang/Object;" ∈ TT := TT_at 226 (by decide +kernel) (by decide +kernel)
theorem k_205 : Cond.classLink R_Ar 2 R_Ob ∈ TT := TT_at 228 (by decide +kernel) (by decide +kernel)
theorem k_206 : Cond.methodLink R_Ar 304 y_Mt_min ∈ TT := TT_at 229 (by decide +kernel) (by decide +kernel)
theorem k_207 : Cond.static y_Mt_min ∈ TT := TT_at 230 (by decide +kernel) (by decide +kernel)
set_option maxRecDepth 20000 in
theorem k_208 : Cond.code y_Mt_min b_Mt_min 2 (some .int) ∈ TT := TT_at 231 rfl rfl
theorem k_209 : Cond.methodLink R_Ar 150 ⟨"java/lang/System", "arraycopy", "(Ljava/lang/Object;ILjava/lang/Object;II)V"⟩ ∈ TT := TT_at 232 (by decide +kernel) (by decide +kernel)
theorem k_210 : Cond.static ⟨"java/lang/System", "arraycopy", "(Ljava/lang/Object;ILjava/lang/Object;II)V"⟩ ∈ TT := TT_at 233 (by decide +kernel) (by decide +kernel)
theorem k_211 : Cond.native ⟨"java/lang/System", "arraycopy", "(Ljava/lang/Object;ILjava/lang/Object;II)V"⟩ ∈ TT := TT_at 234 (by decide +kernel) (by decide +kernel)
theorem k_212 : Cond.methodLink R_AL 79 y_Mt_max ∈ TT := TT_at 235 (by decide +kernel) (by decide +kernel)
theorem k_213 : Cond.classLink R_AL 7 R_Ob ∈ TT := TT_at 236 (by decide +kernel) (by decide +kernel)
theorem k_214 : Cond.methodLink R_law 26 y_MB_then ∈ TT := TT_at 237 (by decide +kernel) (by decide +kernel)
theorem k_215 : Cond.instanceMethod y_MB_then ∈ TT := TT_at 238 (by decide +kernel) (by decide +kernel)
theorem k_216 : Cond.selects R_MB y_MB_then y_MB_then ∈ TT := TT_at 239 (by decide +kernel) (by decide +kernel)
set_option maxRecDepth 20000 in
theorem k_217 : Cond.code y_MB_then b_MB_then 5 (some .int) ∈ TT := TT_at 240 rfl rfl
theorem k_218 : Cond.methodLink R_MB 67 y_MB_isRule ∈ TT := TT_at 241 (by decide +kernel) (by decide +kernel)
theorem k_220 : Cond.instanceMethod y_MB_isRule ∈ TT := TT_at 243 (by decide +kernel) (by decide +kernel)
set_option maxRecDepth 20000 in
theorem k_221 : Cond.code y_MB_isRule b_MB_isRule 2 (some .boolean) ∈ TT := TT_at 244 rfl rfl
theorem k_222 : Cond.methodLink R_MB 70 y_AL_get ∈ TT := TT_at 245 (by decide +kernel) (by decide +kernel)
theorem k_223 : Cond.instanceMethod y_AL_get ∈ TT := TT_at 246 (by decide +kernel) (by decide +kernel)
theorem k_224 : Cond.selects R_AL y_AL_get y_AL_get ∈ TT := TT_at 247 (by decide +kernel) (by decide +kernel)
set_option maxRecDepth 20000 in
theorem k_225 : Cond.code y_AL_get b_AL_get 2 (some (.object "java/lang/Object")) ∈ TT := TT_at 248 rfl rfl
theorem k_226 : Cond.methodLink R_AL 118 y_Os_checkIndex ∈ TT := TT_at 249 (by decide +kernel) (by decide +kernel)
theorem k_227 : Cond.static y_Os_checkIndex ∈ TT := TT_at 250 (by decide +kernel) (by decide +kernel)
set_option maxRecDepth 20000 in
theorem k_228 : Cond.code y_Os_checkIndex b_Os_checkIndex 2 (some .int) ∈ TT := TT_at 251 rfl rfl
theorem k_229 : Cond.methodLink R_Os 105 y_Pc_checkIndex ∈ TT := TT_at 252 (by decide +kernel) (by decide +kernel)
theorem k_230 : Cond.static y_Pc_checkIndex ∈ TT := TT_at 253 (by decide +kernel) (by decide +kernel)
set_option maxRecDepth 20000 in
theorem k_231 : Cond.code y_Pc_checkIndex b_Pc_checkIndex 3 (some .int) ∈ TT := TT_at 254 rfl rfl
theorem k_232 : Cond.methodLink R_AL 123 y_AL_elementData ∈ TT := TT_at 255 (by decide +kernel) (by decide +kernel)
theorem k_233 : Cond.instanceMethod y_AL_elementData ∈ TT := TT_at 256 (by decide +kernel) (by decide +kernel)
theorem k_234 : Cond.selects R_AL y_AL_elementData y_AL_elementData ∈ TT := TT_at 257 (by decide +kernel) (by decide +kernel)
set_option maxRecDepth 20000 in
theorem k_235 : Cond.code y_AL_elementData b_AL_elementData 2 (some (.object "java/lang/Object")) ∈ TT := TT_at 258 rfl rfl
theorem k_236 : Cond.methodLink R_MB 78 y_Ru_allows ∈ TT := TT_at 259 (by decide +kernel) (by decide +kernel)
theorem k_237 : Cond.instanceMethod y_Ru_allows ∈ TT := TT_at 260 (by decide +kernel) (by decide +kernel)
theorem k_238 : Cond.selects R_Ru y_Ru_allows y_Ru_allows ∈ TT := TT_at 261 (by decide +kernel) (by decide +kernel)
set_option maxRecDepth 20000 in
theorem k_239 : Cond.code y_Ru_allows b_Ru_allows 3 (some .boolean) ∈ TT := TT_at 262 rfl rfl
theorem k_242 : Cond.methodLink R_MB 84 y_Ru_addAction ∈ TT := TT_at 265 (by decide +kernel) (by decide +kernel)
theorem k_243 : Cond.instanceMethod y_Ru_addAction ∈ TT := TT_at 266 (by decide +kernel) (by decide +kernel)
theorem k_244 : Cond.selects R_Ru y_Ru_addAction y_Ru_addAction ∈ TT := TT_at 267 (by decide +kernel) (by decide +kernel)
set_option maxRecDepth 20000 in
theorem k_245 : Cond.code y_Ru_addAction b_Ru_addAction 3 none ∈ TT := TT_at 268 rfl rfl
theorem k_246 : Cond.methodLink R_law 31 y_MB_strict ∈ TT := TT_at 269 (by decide +kernel) (by decide +kernel)
theorem k_247 : Cond.instanceMethod y_MB_strict ∈ TT := TT_at 270 (by decide +kernel) (by decide +kernel)
theorem k_248 : Cond.selects R_MB y_MB_strict y_MB_strict ∈ TT := TT_at 271 (by decide +kernel) (by decide +kernel)
set_option maxRecDepth 20000 in
theorem k_249 : Cond.code y_MB_strict b_MB_strict 4 (some .int) ∈ TT := TT_at 272 rfl rfl
theorem k_250 : Cond.methodLink R_MB 90 y_MB_asNumber ∈ TT := TT_at 273 (by decide +kernel) (by decide +kernel)
theorem k_251 : Cond.static y_MB_asNumber ∈ TT := TT_at 274 (by decide +kernel) (by decide +kernel)
set_option maxRecDepth 20000 in
theorem k_252 : Cond.code y_MB_asNumber b_MB_asNumber 1 (some .int) ∈ TT := TT_at 275 rfl rfl
theorem k_253 : Cond.methodLink R_law 36 y_MB_call ∈ TT := TT_at 276 (by decide +kernel) (by decide +kernel)
theorem k_254 : Cond.instanceMethod y_MB_call ∈ TT := TT_at 277 (by decide +kernel) (by decide +kernel)
theorem k_255 : Cond.selects R_MB y_MB_call y_MB_call ∈ TT := TT_at 278 (by decide +kernel) (by decide +kernel)
set_option maxRecDepth 20000 in
theorem k_256 : Cond.code y_MB_call b_MB_call 6 (some .long) ∈ TT := TT_at 279 rfl rfl
theorem k_257 : Cond.constantLong R_MB 94 60000000000 ∈ TT := TT_at 280 (by decide +kernel) (by decide +kernel)
theorem k_258 : Cond.methodLink R_MB 96 y_MB_noteAndRespond ∈ TT := TT_at 281 (by decide +kernel) (by decide +kernel)
theorem k_260 : Cond.instanceMethod y_MB_noteAndRespond ∈ TT := TT_at 283 (by decide +kernel) (by decide +kernel)
set_option maxRecDepth 20000 in
theorem k_261 : Cond.code y_MB_noteAndRespond b_MB_noteAndRespond 10 (some .long) ∈ TT := TT_at 284 rfl rfl
theorem k_262 : Cond.constantLong R_MB 167 20000000001 ∈ TT := TT_at 285 (by decide +kernel) (by decide +kernel)
theorem k_263 : Cond.classLink R_MB 113 R_In ∈ TT := TT_at 286 (by decide +kernel) (by decide +kernel)
theorem k_264 : Cond.instantiable R_In 11 ∈ TT := TT_at 287 (by decide +kernel) (by decide +kernel)
theorem k_265 : Cond.methodLink R_MB 169 y_In_init ∈ TT := TT_at 288 (by decide +kernel) (by decide +kernel)
theorem k_266 : Cond.instanceMethod y_In_init ∈ TT := TT_at 289 (by decide +kernel) (by decide +kernel)
set_option maxRecDepth 20000 in
theorem k_267 : Cond.code y_In_init b_In_init 9 none ∈ TT := TT_at 290 rfl rfl
theorem k_268 : Cond.methodLink R_In 3 y_Ob_init ∈ TT := TT_at 291 (by decide +kernel) (by decide +kernel)
theorem k_269 : Cond.constantLong R_In 15 60000000000 ∈ TT := TT_at 292 (by decide +kernel) (by decide +kernel)
theorem k_271 : Cond.fieldLink R_In 32 "MockBook$Interaction" "mock" "I" ∈ TT := TT_at 294 (by decide +kernel) (by decide +kernel)
theorem k_272 : Cond.fieldLink R_Ru 39 "MockBook$Interaction" "mock" "I" ∈ TT := TT_at 295 (by decide +kernel) (by decide +kernel)
theorem k_273 : Cond.fieldLink R_MB 119 "MockBook$Interaction" "mock" "I" ∈ TT := TT_at 296 (by decide +kernel) (by decide +kernel)
theorem k_274 : Cond.fieldLink R_In 35 "MockBook$Interaction" "method" "I" ∈ TT := TT_at 297 (by decide +kernel) (by decide +kernel)
theorem k_275 : Cond.fieldLink R_Ru 42 "MockBook$Interaction" "method" "I" ∈ TT := TT_at 298 (by decide +kernel) (by decide +kernel)
theorem k_276 : Cond.fieldLink R_MB 136 "MockBook$Interaction" "method" "I" ∈ TT := TT_at 299 (by decide +kernel) (by decide +kernel)
theorem k_277 : Cond.fieldLink R_In 38 "MockBook$Interaction" "a" "I" ∈ TT := TT_at 300 (by decide +kernel) (by decide +kernel)
theorem k_278 : Cond.fieldLink R_MB 139 "MockBook$Interaction" "a" "I" ∈ TT := TT_at 301 (by decide +kernel) (by decide +kernel)
theorem k_279 : Cond.fieldLink R_In 41 "MockBook$Interaction" "b" "I" ∈ TT := TT_at 302 (by decide +kernel) (by decide +kernel)
theorem k_280 : Cond.fieldLink R_MB 142 "MockBook$Interaction" "b" "I" ∈ TT := TT_at 303 (by decide +kernel) (by decide +kernel)
theorem k_281 : Cond.fieldLink R_In 44 "MockBook$Interaction" "c" "I" ∈ TT := TT_at 304 (by decide +kernel) (by decide +kernel)
theorem k_282 : Cond.fieldLink R_MB 145 "MockBook$Interaction" "c" "I" ∈ TT := TT_at 305 (by decide +kernel) (by decide +kernel)
theorem k_283 : Cond.fieldLink R_In 47 "MockBook$Interaction" "depth" "I" ∈ TT := TT_at 306 (by decide +kernel) (by decide +kernel)
theorem k_284 : Cond.fieldLink R_MB 148 "MockBook$Interaction" "depth" "I" ∈ TT := TT_at 307 (by decide +kernel) (by decide +kernel)
theorem k_285 : Cond.fieldLink R_In 50 "MockBook$Interaction" "from" "I" ∈ TT := TT_at 308 (by decide +kernel) (by decide +kernel)
theorem k_286 : Cond.fieldLink R_MB 151 "MockBook$Interaction" "from" "I" ∈ TT := TT_at 309 (by decide +kernel) (by decide +kernel)
theorem k_287 : Cond.fieldLink R_In 9 "MockBook$Interaction" "ruleNumber" "I" ∈ TT := TT_at 310 (by decide +kernel) (by decide +kernel)
theorem k_288 : Cond.fieldLink R_MB 154 "MockBook$Interaction" "ruleNumber" "I" ∈ TT := TT_at 311 (by decide +kernel) (by decide +kernel)
theorem k_289 : Cond.fieldLink R_In 17 "MockBook$Interaction" "response" "J" ∈ TT := TT_at 312 (by decide +kernel) (by decide +kernel)
theorem k_290 : Cond.fieldLink R_MB 157 "MockBook$Interaction" "response" "J" ∈ TT := TT_at 313 (by decide +kernel) (by decide +kernel)
theorem k_291 : Cond.fieldLink R_In 21 "MockBook$Interaction" "verified" "Z" ∈ TT := TT_at 314 (by decide +kernel) (by decide +kernel)
theorem k_292 : Cond.fieldLink R_MB 115 "MockBook$Interaction" "verified" "Z" ∈ TT := TT_at 315 (by decide +kernel) (by decide +kernel)
theorem k_293 : Cond.fieldLink R_In 25 "MockBook$Interaction" "live" "Z" ∈ TT := TT_at 316 (by decide +kernel) (by decide +kernel)
theorem k_294 : Cond.fieldLink R_MB 118 "MockBook$Interaction" "live" "Z" ∈ TT := TT_at 317 (by decide +kernel) (by decide +kernel)
theorem k_318 : Cond.methodLink R_MB 172 y_MB_ruleNumberFor ∈ TT := TT_at 341 (by decide +kernel) (by decide +kernel)
theorem k_320 : Cond.instanceMethod y_MB_ruleNumberFor ∈ TT := TT_at 343 (by decide +kernel) (by decide +kernel)
set_option maxRecDepth 20000 in
theorem k_321 : Cond.code y_MB_ruleNumberFor b_MB_ruleNumberFor 3 (some .int) ∈ TT := TT_at 344 rfl rfl
theorem k_322 : Cond.methodLink R_MB 201 y_Ru_answersTo ∈ TT := TT_at 345 (by decide +kernel) (by decide +kernel)
theorem k_323 : Cond.instanceMethod y_Ru_answersTo ∈ TT := TT_at 346 (by decide +kernel) (by decide +kernel)
theorem k_324 : Cond.selects R_Ru y_Ru_answersTo y_Ru_answersTo ∈ TT := TT_at 347 (by decide +kernel) (by decide +kernel)
set_option maxRecDepth 20000 in
theorem k_325 : Cond.code y_Ru_answersTo b_Ru_answersTo 2 (some .boolean) ∈ TT := TT_at 348 rfl rfl
theorem k_326 : Cond.methodLink R_Ru 43 y_Ma_fit ∈ TT := TT_at 349 (by decide +kernel) (by decide +kernel)
theorem k_327 : Cond.instanceMethod y_Ma_fit ∈ TT := TT_at 350 (by decide +kernel) (by decide +kernel)
theorem k_328 : Cond.selects R_Ma y_Ma_fit y_Ma_fit ∈ TT := TT_at 351 (by decide +kernel) (by decide +kernel)
set_option maxRecDepth 20000 in
theorem k_329 : Cond.code y_Ma_fit b_Ma_fit 3 (some .boolean) ∈ TT := TT_at 352 rfl rfl
theorem k_330 : Cond.methodLink R_Ma 26 y_In_argument ∈ TT := TT_at 353 (by decide +kernel) (by decide +kernel)
theorem k_331 : Cond.instanceMethod y_In_argument ∈ TT := TT_at 354 (by decide +kernel) (by decide +kernel)
theorem k_332 : Cond.selects R_In y_In_argument y_In_argument ∈ TT := TT_at 355 (by decide +kernel) (by decide +kernel)
set_option maxRecDepth 20000 in
theorem k_333 : Cond.code y_In_argument b_In_argument 2 (some .int) ∈ TT := TT_at 356 rfl rfl
theorem k_334 : Cond.methodLink R_Ma 31 y_Ma_fitsOne ∈ TT := TT_at 357 (by decide +kernel) (by decide +kernel)
theorem k_335 : Cond.static y_Ma_fitsOne ∈ TT := TT_at 358 (by decide +kernel) (by decide +kernel)
set_option maxRecDepth 20000 in
theorem k_336 : Cond.code y_Ma_fitsOne b_Ma_fitsOne 3 (some .boolean) ∈ TT := TT_at 359 rfl rfl
theorem k_337 : Cond.methodLink R_Ma 35 y_Mt_floorMod ∈ TT := TT_at 360 (by decide +kernel) (by decide +kernel)
theorem k_338 : Cond.static y_Mt_floorMod ∈ TT := TT_at 361 (by decide +kernel) (by decide +kernel)
set_option maxRecDepth 20000 in
theorem k_339 : Cond.code y_Mt_floorMod b_Mt_floorMod 3 (some .int) ∈ TT := TT_at 362 rfl rfl
theorem k_340 : Cond.methodLink R_MB 176 y_MB_respond ∈ TT := TT_at 363 (by decide +kernel) (by decide +kernel)
theorem k_342 : Cond.instanceMethod y_MB_respond ∈ TT := TT_at 365 (by decide +kernel) (by decide +kernel)
set_option maxRecDepth 20000 in
theorem k_343 : Cond.code y_MB_respond b_MB_respond 8 (some .long) ∈ TT := TT_at 366 rfl rfl
theorem k_344 : Cond.constantLong R_MB 180 20000000000 ∈ TT := TT_at 367 (by decide +kernel) (by decide +kernel)
theorem k_345 : Cond.methodLink R_MB 182 y_Ru_placeInTurn ∈ TT := TT_at 368 (by decide +kernel) (by decide +kernel)
theorem k_346 : Cond.instanceMethod y_Ru_placeInTurn ∈ TT := TT_at 369 (by decide +kernel) (by decide +kernel)
theorem k_347 : Cond.selects R_Ru y_Ru_placeInTurn y_Ru_placeInTurn ∈ TT := TT_at 370 (by decide +kernel) (by decide +kernel)
set_option maxRecDepth 20000 in
theorem k_348 : Cond.code y_Ru_placeInTurn b_Ru_placeInTurn 1 (some .int) ∈ TT := TT_at 371 rfl rfl
theorem k_349 : Cond.methodLink R_Ru 57 y_Mt_min ∈ TT := TT_at 372 (by decide +kernel) (by decide +kernel)
theorem k_350 : Cond.methodLink R_Ru 63 y_Mt_max ∈ TT := TT_at 373 (by decide +kernel) (by decide +kernel)
theorem k_351 : Cond.methodLink R_MB 192 y_In_argument ∈ TT := TT_at 374 (by decide +kernel) (by decide +kernel)
theorem k_352 : Cond.constantLong R_MB 195 40000000000 ∈ TT := TT_at 375 (by decide +kernel) (by decide +kernel)
theorem k_353 : Cond.methodLink R_MB 197 y_MB_pass ∈ TT := TT_at 376 (by decide +kernel) (by decide +kernel)
theorem k_355 : Cond.instanceMethod y_MB_pass ∈ TT := TT_at 378 (by decide +kernel) (by decide +kernel)
set_option maxRecDepth 20000 in
theorem k_356 : Cond.code y_MB_pass b_MB_pass 7 (some .long) ∈ TT := TT_at 379 rfl rfl
theorem k_357 : Cond.methodLink R_law 41 y_MB_verify ∈ TT := TT_at 380 (by decide +kernel) (by decide +kernel)
theorem k_358 : Cond.instanceMethod y_MB_verify ∈ TT := TT_at 381 (by decide +kernel) (by decide +kernel)
theorem k_359 : Cond.selects R_MB y_MB_verify y_MB_verify ∈ TT := TT_at 382 (by decide +kernel) (by decide +kernel)
set_option maxRecDepth 20000 in
theorem k_360 : Cond.code y_MB_verify b_MB_verify 7 (some .int) ∈ TT := TT_at 383 rfl rfl
theorem k_361 : Cond.methodLink R_MB 100 y_MB_countSought ∈ TT := TT_at 384 (by decide +kernel) (by decide +kernel)
theorem k_363 : Cond.instanceMethod y_MB_countSought ∈ TT := TT_at 386 (by decide +kernel) (by decide +kernel)
set_option maxRecDepth 20000 in
theorem k_364 : Cond.code y_MB_countSought b_MB_countSought 5 (some .int) ∈ TT := TT_at 387 rfl rfl
theorem k_365 : Cond.methodLink R_MB 208 y_MB_isSought ∈ TT := TT_at 388 (by decide +kernel) (by decide +kernel)
theorem k_367 : Cond.instanceMethod y_MB_isSought ∈ TT := TT_at 390 (by decide +kernel) (by decide +kernel)
set_option maxRecDepth 20000 in
theorem k_368 : Cond.code y_MB_isSought b_MB_isSought 4 (some .boolean) ∈ TT := TT_at 391 rfl rfl
theorem k_369 : Cond.methodLink R_MB 205 y_Ma_fit ∈ TT := TT_at 392 (by decide +kernel) (by decide +kernel)
theorem k_370 : Cond.methodLink R_MB 104 y_MB_isWanted ∈ TT := TT_at 393 (by decide +kernel) (by decide +kernel)
theorem k_371 : Cond.static y_MB_isWanted ∈ TT := TT_at 394 (by decide +kernel) (by decide +kernel)
set_option maxRecDepth 20000 in
theorem k_372 : Cond.code y_MB_isWanted b_MB_isWanted 3 (some .boolean) ∈ TT := TT_at 395 rfl rfl
theorem k_373 : Cond.methodLink R_MB 107 y_MB_verifySought ∈ TT := TT_at 396 (by decide +kernel) (by decide +kernel)
theorem k_375 : Cond.instanceMethod y_MB_verifySought ∈ TT := TT_at 398 (by decide +kernel) (by decide +kernel)
set_option maxRecDepth 20000 in
theorem k_376 : Cond.code y_MB_verifySought b_MB_verifySought 5 none ∈ TT := TT_at 399 rfl rfl
theorem k_377 : Cond.methodLink R_law 46 y_MB_inOrder ∈ TT := TT_at 400 (by decide +kernel) (by decide +kernel)
theorem k_378 : Cond.instanceMethod y_MB_inOrder ∈ TT := TT_at 401 (by decide +kernel) (by decide +kernel)
theorem k_379 : Cond.selects R_MB y_MB_inOrder y_MB_inOrder ∈ TT := TT_at 402 (by decide +kernel) (by decide +kernel)
set_option maxRecDepth 20000 in
theorem k_380 : Cond.code y_MB_inOrder b_MB_inOrder 4 (some .int) ∈ TT := TT_at 403 rfl rfl
theorem k_381 : Cond.methodLink R_MB 110 y_MB_firstSoughtAfterMark ∈ TT := TT_at 404 (by decide +kernel) (by decide +kernel)
theorem k_383 : Cond.instanceMethod y_MB_firstSoughtAfterMark ∈ TT := TT_at 406 (by decide +kernel) (by decide +kernel)
set_option maxRecDepth 20000 in
theorem k_384 : Cond.code y_MB_firstSoughtAfterMark b_MB_firstSoughtAfterMark 4 (some .int) ∈ TT := TT_at 407 rfl rfl
theorem k_385 : Cond.methodLink R_law 50 y_MB_rewind ∈ TT := TT_at 408 (by decide +kernel) (by decide +kernel)
theorem k_386 : Cond.instanceMethod y_MB_rewind ∈ TT := TT_at 409 (by decide +kernel) (by decide +kernel)
theorem k_387 : Cond.selects R_MB y_MB_rewind y_MB_rewind ∈ TT := TT_at 410 (by decide +kernel) (by decide +kernel)
set_option maxRecDepth 20000 in
theorem k_388 : Cond.code y_MB_rewind b_MB_rewind 2 (some .int) ∈ TT := TT_at 411 rfl rfl
theorem k_389 : Cond.methodLink R_law 55 y_MB_open ∈ TT := TT_at 412 (by decide +kernel) (by decide +kernel)
theorem k_390 : Cond.instanceMethod y_MB_open ∈ TT := TT_at 413 (by decide +kernel) (by decide +kernel)
theorem k_391 : Cond.selects R_MB y_MB_open y_MB_open ∈ TT := TT_at 414 (by decide +kernel) (by decide +kernel)
set_option maxRecDepth 20000 in
theorem k_392 : Cond.code y_MB_open b_MB_open 4 (some .int) ∈ TT := TT_at 415 rfl rfl
theorem k_393 : Cond.methodLink R_law 60 y_MB_unused ∈ TT := TT_at 416 (by decide +kernel) (by decide +kernel)
theorem k_394 : Cond.instanceMethod y_MB_unused ∈ TT := TT_at 417 (by decide +kernel) (by decide +kernel)
theorem k_395 : Cond.selects R_MB y_MB_unused y_MB_unused ∈ TT := TT_at 418 (by decide +kernel) (by decide +kernel)
set_option maxRecDepth 20000 in
theorem k_396 : Cond.code y_MB_unused b_MB_unused 3 (some .int) ∈ TT := TT_at 419 rfl rfl
theorem k_397 : Cond.methodLink R_law 64 y_MB_reset ∈ TT := TT_at 420 (by decide +kernel) (by decide +kernel)
theorem k_398 : Cond.instanceMethod y_MB_reset ∈ TT := TT_at 421 (by decide +kernel) (by decide +kernel)
theorem k_399 : Cond.selects R_MB y_MB_reset y_MB_reset ∈ TT := TT_at 422 (by decide +kernel) (by decide +kernel)
set_option maxRecDepth 20000 in
theorem k_400 : Cond.code y_MB_reset b_MB_reset 2 (some .int) ∈ TT := TT_at 423 rfl rfl
theorem k_401 : Cond.methodLink R_MB 125 y_MB_endRules ∈ TT := TT_at 424 (by decide +kernel) (by decide +kernel)
theorem k_403 : Cond.instanceMethod y_MB_endRules ∈ TT := TT_at 426 (by decide +kernel) (by decide +kernel)
set_option maxRecDepth 20000 in
theorem k_404 : Cond.code y_MB_endRules b_MB_endRules 4 none ∈ TT := TT_at 427 rfl rfl
theorem k_405 : Cond.methodLink R_MB 129 y_MB_endInteractions ∈ TT := TT_at 428 (by decide +kernel) (by decide +kernel)
theorem k_407 : Cond.instanceMethod y_MB_endInteractions ∈ TT := TT_at 430 (by decide +kernel) (by decide +kernel)
set_option maxRecDepth 20000 in
theorem k_408 : Cond.code y_MB_endInteractions b_MB_endInteractions 5 (some .int) ∈ TT := TT_at 431 rfl rfl
theorem k_409 : Cond.methodLink R_law 68 y_MB_noted ∈ TT := TT_at 432 (by decide +kernel) (by decide +kernel)
theorem k_410 : Cond.instanceMethod y_MB_noted ∈ TT := TT_at 433 (by decide +kernel) (by decide +kernel)
theorem k_411 : Cond.selects R_MB y_MB_noted y_MB_noted ∈ TT := TT_at 434 (by decide +kernel) (by decide +kernel)
set_option maxRecDepth 20000 in
theorem k_412 : Cond.code y_MB_noted b_MB_noted 4 (some .long) ∈ TT := TT_at 435 rfl rfl
theorem k_413 : Cond.methodLink R_MB 133 y_MB_isInteraction ∈ TT := TT_at 436 (by decide +kernel) (by decide +kernel)
theorem k_415 : Cond.instanceMethod y_MB_isInteraction ∈ TT := TT_at 438 (by decide +kernel) (by decide +kernel)
set_option maxRecDepth 20000 in
theorem k_416 : Cond.code y_MB_isInteraction b_MB_isInteraction 2 (some .boolean) ∈ TT := TT_at 439 rfl rfl
theorem k_417 : Cond.methodLink R_law 73 y_MB_answer ∈ TT := TT_at 440 (by decide +kernel) (by decide +kernel)
theorem k_418 : Cond.instanceMethod y_MB_answer ∈ TT := TT_at 441 (by decide +kernel) (by decide +kernel)
theorem k_419 : Cond.selects R_MB y_MB_answer y_MB_answer ∈ TT := TT_at 442 (by decide +kernel) (by decide +kernel)
set_option maxRecDepth 20000 in
theorem k_420 : Cond.code y_MB_answer b_MB_answer 2 (some .long) ∈ TT := TT_at 443 rfl rfl
theorem k_421 : Cond.methodLink R_law 78 y_MB_about ∈ TT := TT_at 444 (by decide +kernel) (by decide +kernel)
theorem k_422 : Cond.instanceMethod y_MB_about ∈ TT := TT_at 445 (by decide +kernel) (by decide +kernel)
theorem k_423 : Cond.selects R_MB y_MB_about y_MB_about ∈ TT := TT_at 446 (by decide +kernel) (by decide +kernel)
set_option maxRecDepth 20000 in
theorem k_424 : Cond.code y_MB_about b_MB_about 4 (some .int) ∈ TT := TT_at 447 rfl rfl
theorem k_425 : Cond.methodLink R_law 82 y_MB_count ∈ TT := TT_at 448 (by decide +kernel) (by decide +kernel)
theorem k_426 : Cond.instanceMethod y_MB_count ∈ TT := TT_at 449 (by decide +kernel) (by decide +kernel)
theorem k_427 : Cond.selects R_MB y_MB_count y_MB_count ∈ TT := TT_at 450 (by decide +kernel) (by decide +kernel)
set_option maxRecDepth 20000 in
theorem k_428 : Cond.code y_MB_count b_MB_count 2 (some .int) ∈ TT := TT_at 451 rfl rfl
theorem k_429 : Cond.methodLink R_MB 161 y_MB_countLiveInteractions ∈ TT := TT_at 452 (by decide +kernel) (by decide +kernel)
theorem k_431 : Cond.instanceMethod y_MB_countLiveInteractions ∈ TT := TT_at 454 (by decide +kernel) (by decide +kernel)
set_option maxRecDepth 20000 in
theorem k_432 : Cond.code y_MB_countLiveInteractions b_MB_countLiveInteractions 5 (some .int) ∈ TT := TT_at 455 rfl rfl
theorem k_433 : Cond.methodLink R_MB 164 y_MB_countLiveRules ∈ TT := TT_at 456 (by decide +kernel) (by decide +kernel)
theorem k_435 : Cond.instanceMethod y_MB_countLiveRules ∈ TT := TT_at 458 (by decide +kernel) (by decide +kernel)
set_option maxRecDepth 20000 in
theorem k_436 : Cond.code y_MB_countLiveRules b_MB_countLiveRules 3 (some .int) ∈ TT := TT_at 459 rfl rfl
theorem k_437 : Cond.classLink R_law 10 R_MM ∈ TT := TT_at 460 (by decide +kernel) (by decide +kernel)
theorem k_438 : Cond.instantiable R_MM 24 ∈ TT := TT_at 461 (by decide +kernel) (by decide +kernel)
theorem k_439 : Cond.methodLink R_law 12 y_MM_init ∈ TT := TT_at 462 (by decide +kernel) (by decide +kernel)
theorem k_440 : Cond.instanceMethod y_MM_init ∈ TT := TT_at 463 (by decide +kernel) (by decide +kernel)
set_option maxRecDepth 20000 in
theorem k_441 : Cond.code y_MM_init b_MM_init 1 none ∈ TT := TT_at 464 rfl rfl
theorem k_442 : Cond.methodLink R_MM 1 y_Ob_init ∈ TT := TT_at 465 (by decide +kernel) (by decide +kernel)
theorem k_443 : Cond.fieldLink R_MM 7 "MockBookModel" "bufKind" "[I" ∈ TT := TT_at 466 (by decide +kernel) (by decide +kernel)
theorem k_444 : Cond.fieldLink R_MM 13 "MockBookModel" "bufValue" "[I" ∈ TT := TT_at 467 (by decide +kernel) (by decide +kernel)
theorem k_445 : Cond.fieldLink R_MM 76 "MockBookModel" "buffered" "I" ∈ TT := TT_at 468 (by decide +kernel) (by decide +kernel)
theorem k_446 : Cond.fieldLink R_MM 16 "MockBookModel" "rMock" "[I" ∈ TT := TT_at 469 (by decide +kernel) (by decide +kernel)
theorem k_447 : Cond.fieldLink R_MM 19 "MockBookModel" "rMethod" "[I" ∈ TT := TT_at 470 (by decide +kernel) (by decide +kernel)
theorem k_448 : Cond.fieldLink R_MM 22 "MockBookModel" "rLive" "[Z" ∈ TT := TT_at 471 (by decide +kernel) (by decide +kernel)
theorem k_449 : Cond.fieldLink R_MM 26 "MockBookModel" "mKind" "[I" ∈ TT := TT_at 472 (by decide +kernel) (by decide +kernel)
theorem k_450 : Cond.fieldLink R_MM 29 "MockBookModel" "mValue" "[I" ∈ TT := TT_at 473 (by decide +kernel) (by decide +kernel)
theorem k_451 : Cond.fieldLink R_MM 32 "MockBookModel" "aKind" "[I" ∈ TT := TT_at 474 (by decide +kernel) (by decide +kernel)
theorem k_452 : Cond.fieldLink R_MM 35 "MockBookModel" "aValue" "[I" ∈ TT := TT_at 475 (by decide +kernel) (by decide +kernel)
theorem k_453 : Cond.fieldLink R_MM 38 "MockBookModel" "actions" "[I" ∈ TT := TT_at 476 (by decide +kernel) (by decide +kernel)
theorem k_454 : Cond.fieldLink R_MM 83 "MockBookModel" "rules" "I" ∈ TT := TT_at 477 (by decide +kernel) (by decide +kernel)
theorem k_455 : Cond.fieldLink R_MM 41 "MockBookModel" "strict" "[Z" ∈ TT := TT_at 478 (by decide +kernel) (by decide +kernel)
theorem k_456 : Cond.fieldLink R_MM 44 "MockBookModel" "iMock" "[I" ∈ TT := TT_at 479 (by decide +kernel) (by decide +kernel)
theorem k_457 : Cond.fieldLink R_MM 47 "MockBookModel" "iMethod" "[I" ∈ TT := TT_at 480 (by decide +kernel) (by decide +kernel)
theorem k_458 : Cond.fieldLink R_MM 50 "MockBookModel" "args" "[I" ∈ TT := TT_at 481 (by decide +kernel) (by decide +kernel)
theorem k_459 : Cond.fieldLink R_MM 53 "MockBookModel" "depth" "[I" ∈ TT := TT_at 482 (by decide +kernel) (by decide +kernel)
theorem k_460 : Cond.fieldLink R_MM 56 "MockBookModel" "from" "[I" ∈ TT := TT_at 483 (by decide +kernel) (by decide +kernel)
theorem k_461 : Cond.fieldLink R_MM 59 "MockBookModel" "rule" "[I" ∈ TT := TT_at 484 (by decide +kernel) (by decide +kernel)
theorem k_462 : Cond.fieldLink R_MM 62 "MockBookModel" "result" "[J" ∈ TT := TT_at 485 (by decide +kernel) (by decide +kernel)
theorem k_463 : Cond.fieldLink R_MM 66 "MockBookModel" "iLive" "[Z" ∈ TT := TT_at 486 (by decide +kernel) (by decide +kernel)
theorem k_464 : Cond.fieldLink R_MM 69 "MockBookModel" "verified" "[Z" ∈ TT := TT_at 487 (by decide +kernel) (by decide +kernel)
theorem k_465 : Cond.fieldLink R_MM 90 "MockBookModel" "noted" "I" ∈ TT := TT_at 488 (by decide +kernel) (by decide +kernel)
theorem k_466 : Cond.fieldLink R_MM 72 "MockBookModel" "mark" "I" ∈ TT := TT_at 489 (by decide +kernel) (by decide +kernel)
theorem k_516 : Cond.arrayClass .long ∈ TT := TT_at 539 (by decide +kernel) (by decide +kernel)
theorem k_517 : Cond.methodLink R_law 17 y_MM_matcher ∈ TT := TT_at 540 (by decide +kernel) (by decide +kernel)
theorem k_518 : Cond.instanceMethod y_MM_matcher ∈ TT := TT_at 541 (by decide +kernel) (by decide +kernel)
theorem k_519 : Cond.selects R_MM y_MM_matcher y_MM_matcher ∈ TT := TT_at 542 (by decide +kernel) (by decide +kernel)
set_option maxRecDepth 20000 in
theorem k_520 : Cond.code y_MM_matcher b_MM_matcher 3 (some .int) ∈ TT := TT_at 543 rfl rfl
theorem k_521 : Cond.methodLink R_law 21 y_MM_drop ∈ TT := TT_at 544 (by decide +kernel) (by decide +kernel)
theorem k_522 : Cond.instanceMethod y_MM_drop ∈ TT := TT_at 545 (by decide +kernel) (by decide +kernel)
theorem k_523 : Cond.selects R_MM y_MM_drop y_MM_drop ∈ TT := TT_at 546 (by decide +kernel) (by decide +kernel)
set_option maxRecDepth 20000 in
theorem k_524 : Cond.code y_MM_drop b_MM_drop 1 none ∈ TT := TT_at 547 rfl rfl
theorem k_525 : Cond.methodLink R_law 25 y_MM_rule ∈ TT := TT_at 548 (by decide +kernel) (by decide +kernel)
theorem k_526 : Cond.instanceMethod y_MM_rule ∈ TT := TT_at 549 (by decide +kernel) (by decide +kernel)
theorem k_527 : Cond.selects R_MM y_MM_rule y_MM_rule ∈ TT := TT_at 550 (by decide +kernel) (by decide +kernel)
set_option maxRecDepth 20000 in
theorem k_528 : Cond.code y_MM_rule b_MM_rule 4 (some .int) ∈ TT := TT_at 551 rfl rfl
theorem k_529 : Cond.methodLink R_MM 79 y_MM_bad ∈ TT := TT_at 552 (by decide +kernel) (by decide +kernel)
theorem k_530 : Cond.static y_MM_bad ∈ TT := TT_at 553 (by decide +kernel) (by decide +kernel)
set_option maxRecDepth 20000 in
theorem k_531 : Cond.code y_MM_bad b_MM_bad 2 (some .boolean) ∈ TT := TT_at 554 rfl rfl
theorem k_532 : Cond.methodLink R_law 30 y_MM_then ∈ TT := TT_at 555 (by decide +kernel) (by decide +kernel)
theorem k_533 : Cond.instanceMethod y_MM_then ∈ TT := TT_at 556 (by decide +kernel) (by decide +kernel)
theorem k_534 : Cond.selects R_MM y_MM_then y_MM_then ∈ TT := TT_at 557 (by decide +kernel) (by decide +kernel)
set_option maxRecDepth 20000 in
theorem k_535 : Cond.code y_MM_then b_MM_then 5 (some .int) ∈ TT := TT_at 558 rfl rfl
theorem k_536 : Cond.methodLink R_law 35 y_MM_strict ∈ TT := TT_at 559 (by decide +kernel) (by decide +kernel)
theorem k_537 : Cond.instanceMethod y_MM_strict ∈ TT := TT_at 560 (by decide +kernel) (by decide +kernel)
theorem k_538 : Cond.selects R_MM y_MM_strict y_MM_strict ∈ TT := TT_at 561 (by decide +kernel) (by decide +kernel)
set_option maxRecDepth 20000 in
theorem k_539 : Cond.code y_MM_strict b_MM_strict 4 (some .int) ∈ TT := TT_at 562 rfl rfl
theorem k_540 : Cond.methodLink R_law 40 y_MM_call ∈ TT := TT_at 563 (by decide +kernel) (by decide +kernel)
theorem k_541 : Cond.instanceMethod y_MM_call ∈ TT := TT_at 564 (by decide +kernel) (by decide +kernel)
theorem k_542 : Cond.selects R_MM y_MM_call y_MM_call ∈ TT := TT_at 565 (by decide +kernel) (by decide +kernel)
set_option maxRecDepth 20000 in
theorem k_543 : Cond.code y_MM_call b_MM_call 11 (some .long) ∈ TT := TT_at 566 rfl rfl
theorem k_544 : Cond.constantLong R_MM 106 60000000000 ∈ TT := TT_at 567 (by decide +kernel) (by decide +kernel)
theorem k_545 : Cond.methodLink R_MM 108 y_MM_note ∈ TT := TT_at 568 (by decide +kernel) (by decide +kernel)
theorem k_547 : Cond.instanceMethod y_MM_note ∈ TT := TT_at 570 (by decide +kernel) (by decide +kernel)
set_option maxRecDepth 20000 in
theorem k_548 : Cond.code y_MM_note b_MM_note 6 (some .int) ∈ TT := TT_at 571 rfl rfl
theorem k_549 : Cond.methodLink R_MM 112 y_MM_action ∈ TT := TT_at 572 (by decide +kernel) (by decide +kernel)
theorem k_551 : Cond.instanceMethod y_MM_action ∈ TT := TT_at 574 (by decide +kernel) (by decide +kernel)
set_option maxRecDepth 20000 in
theorem k_552 : Cond.code y_MM_action b_MM_action 4 (some .int) ∈ TT := TT_at 575 rfl rfl
theorem k_553 : Cond.methodLink R_MM 93 y_MM_ruleFits ∈ TT := TT_at 576 (by decide +kernel) (by decide +kernel)
theorem k_555 : Cond.instanceMethod y_MM_ruleFits ∈ TT := TT_at 578 (by decide +kernel) (by decide +kernel)
set_option maxRecDepth 20000 in
theorem k_556 : Cond.code y_MM_ruleFits b_MM_ruleFits 4 (some .boolean) ∈ TT := TT_at 579 rfl rfl
theorem k_557 : Cond.methodLink R_MM 86 y_MM_fits ∈ TT := TT_at 580 (by decide +kernel) (by decide +kernel)
theorem k_558 : Cond.static y_MM_fits ∈ TT := TT_at 581 (by decide +kernel) (by decide +kernel)
set_option maxRecDepth 20000 in
theorem k_559 : Cond.code y_MM_fits b_MM_fits 3 (some .boolean) ∈ TT := TT_at 582 rfl rfl
theorem k_560 : Cond.methodLink R_MM 96 y_MM_uses ∈ TT := TT_at 583 (by decide +kernel) (by decide +kernel)
theorem k_562 : Cond.instanceMethod y_MM_uses ∈ TT := TT_at 585 (by decide +kernel) (by decide +kernel)
set_option maxRecDepth 20000 in
theorem k_563 : Cond.code y_MM_uses b_MM_uses 5 (some .int) ∈ TT := TT_at 586 rfl rfl
theorem k_564 : Cond.methodLink R_MM 116 y_MM_plain ∈ TT := TT_at 587 (by decide +kernel) (by decide +kernel)
theorem k_566 : Cond.instanceMethod y_MM_plain ∈ TT := TT_at 589 (by decide +kernel) (by decide +kernel)
set_option maxRecDepth 20000 in
theorem k_567 : Cond.code y_MM_plain b_MM_plain 3 (some .long) ∈ TT := TT_at 590 rfl rfl
theorem k_568 : Cond.constantLong R_MM 100 20000000000 ∈ TT := TT_at 591 (by decide +kernel) (by decide +kernel)
theorem k_569 : Cond.constantLong R_MM 102 40000000000 ∈ TT := TT_at 592 (by decide +kernel) (by decide +kernel)
theorem k_570 : Cond.constantLong R_MM 104 20000000001 ∈ TT := TT_at 593 (by decide +kernel) (by decide +kernel)
theorem k_571 : Cond.methodLink R_law 45 y_MM_verify ∈ TT := TT_at 594 (by decide +kernel) (by decide +kernel)
theorem k_572 : Cond.instanceMethod y_MM_verify ∈ TT := TT_at 595 (by decide +kernel) (by decide +kernel)
theorem k_573 : Cond.selects R_MM y_MM_verify y_MM_verify ∈ TT := TT_at 596 (by decide +kernel) (by decide +kernel)
set_option maxRecDepth 20000 in
theorem k_574 : Cond.code y_MM_verify b_MM_verify 8 (some .int) ∈ TT := TT_at 597 rfl rfl
theorem k_575 : Cond.methodLink R_MM 120 y_MM_asked ∈ TT := TT_at 598 (by decide +kernel) (by decide +kernel)
theorem k_577 : Cond.instanceMethod y_MM_asked ∈ TT := TT_at 600 (by decide +kernel) (by decide +kernel)
set_option maxRecDepth 20000 in
theorem k_578 : Cond.code y_MM_asked b_MM_asked 5 (some .boolean) ∈ TT := TT_at 601 rfl rfl
theorem k_579 : Cond.methodLink R_law 49 y_MM_inOrder ∈ TT := TT_at 602 (by decide +kernel) (by decide +kernel)
theorem k_580 : Cond.instanceMethod y_MM_inOrder ∈ TT := TT_at 603 (by decide +kernel) (by decide +kernel)
theorem k_581 : Cond.selects R_MM y_MM_inOrder y_MM_inOrder ∈ TT := TT_at 604 (by decide +kernel) (by decide +kernel)
set_option maxRecDepth 20000 in
theorem k_582 : Cond.code y_MM_inOrder b_MM_inOrder 5 (some .int) ∈ TT := TT_at 605 rfl rfl
theorem k_583 : Cond.methodLink R_law 54 y_MM_rewind ∈ TT := TT_at 606 (by decide +kernel) (by decide +kernel)
theorem k_584 : Cond.instanceMethod y_MM_rewind ∈ TT := TT_at 607 (by decide +kernel) (by decide +kernel)
theorem k_585 : Cond.selects R_MM y_MM_rewind y_MM_rewind ∈ TT := TT_at 608 (by decide +kernel) (by decide +kernel)
set_option maxRecDepth 20000 in
theorem k_586 : Cond.code y_MM_rewind b_MM_rewind 2 (some .int) ∈ TT := TT_at 609 rfl rfl
theorem k_587 : Cond.methodLink R_law 59 y_MM_open ∈ TT := TT_at 610 (by decide +kernel) (by decide +kernel)
theorem k_588 : Cond.instanceMethod y_MM_open ∈ TT := TT_at 611 (by decide +kernel) (by decide +kernel)
theorem k_589 : Cond.selects R_MM y_MM_open y_MM_open ∈ TT := TT_at 612 (by decide +kernel) (by decide +kernel)
set_option maxRecDepth 20000 in
theorem k_590 : Cond.code y_MM_open b_MM_open 3 (some .int) ∈ TT := TT_at 613 rfl rfl
theorem k_591 : Cond.methodLink R_law 63 y_MM_unused ∈ TT := TT_at 614 (by decide +kernel) (by decide +kernel)
theorem k_592 : Cond.instanceMethod y_MM_unused ∈ TT := TT_at 615 (by decide +kernel) (by decide +kernel)
theorem k_593 : Cond.selects R_MM y_MM_unused y_MM_unused ∈ TT := TT_at 616 (by decide +kernel) (by decide +kernel)
set_option maxRecDepth 20000 in
theorem k_594 : Cond.code y_MM_unused b_MM_unused 2 (some .int) ∈ TT := TT_at 617 rfl rfl
theorem k_595 : Cond.methodLink R_law 67 y_MM_reset ∈ TT := TT_at 618 (by decide +kernel) (by decide +kernel)
theorem k_596 : Cond.instanceMethod y_MM_reset ∈ TT := TT_at 619 (by decide +kernel) (by decide +kernel)
theorem k_597 : Cond.selects R_MM y_MM_reset y_MM_reset ∈ TT := TT_at 620 (by decide +kernel) (by decide +kernel)
set_option maxRecDepth 20000 in
theorem k_598 : Cond.code y_MM_reset b_MM_reset 4 (some .int) ∈ TT := TT_at 621 rfl rfl
theorem k_599 : Cond.methodLink R_law 72 y_MM_noted ∈ TT := TT_at 622 (by decide +kernel) (by decide +kernel)
theorem k_600 : Cond.instanceMethod y_MM_noted ∈ TT := TT_at 623 (by decide +kernel) (by decide +kernel)
theorem k_601 : Cond.selects R_MM y_MM_noted y_MM_noted ∈ TT := TT_at 624 (by decide +kernel) (by decide +kernel)
set_option maxRecDepth 20000 in
theorem k_602 : Cond.code y_MM_noted b_MM_noted 3 (some .long) ∈ TT := TT_at 625 rfl rfl
theorem k_603 : Cond.methodLink R_law 77 y_MM_answer ∈ TT := TT_at 626 (by decide +kernel) (by decide +kernel)
theorem k_604 : Cond.instanceMethod y_MM_answer ∈ TT := TT_at 627 (by decide +kernel) (by decide +kernel)
theorem k_605 : Cond.selects R_MM y_MM_answer y_MM_answer ∈ TT := TT_at 628 (by decide +kernel) (by decide +kernel)
set_option maxRecDepth 20000 in
theorem k_606 : Cond.code y_MM_answer b_MM_answer 2 (some .long) ∈ TT := TT_at 629 rfl rfl
theorem k_607 : Cond.methodLink R_law 81 y_MM_about ∈ TT := TT_at 630 (by decide +kernel) (by decide +kernel)
theorem k_608 : Cond.instanceMethod y_MM_about ∈ TT := TT_at 631 (by decide +kernel) (by decide +kernel)
theorem k_609 : Cond.selects R_MM y_MM_about y_MM_about ∈ TT := TT_at 632 (by decide +kernel) (by decide +kernel)
set_option maxRecDepth 20000 in
theorem k_610 : Cond.code y_MM_about b_MM_about 3 (some .int) ∈ TT := TT_at 633 rfl rfl
theorem k_611 : Cond.methodLink R_law 85 y_MM_count ∈ TT := TT_at 634 (by decide +kernel) (by decide +kernel)
theorem k_612 : Cond.instanceMethod y_MM_count ∈ TT := TT_at 635 (by decide +kernel) (by decide +kernel)
theorem k_613 : Cond.selects R_MM y_MM_count y_MM_count ∈ TT := TT_at 636 (by decide +kernel) (by decide +kernel)
set_option maxRecDepth 20000 in
theorem k_614 : Cond.code y_MM_count b_MM_count 4 (some .int) ∈ TT := TT_at 637 rfl rfl
theorem k_618 : Cond.selects "[Ljava/lang/Object;" ⟨"java/lang/Object", "getClass", "()Ljava/lang/Class;"⟩ ⟨"java/lang/Object", "getClass", "()Ljava/lang/Class;"⟩ ∈ TT := TT_at 641 (by decide +kernel) (by decide +kernel)
theorem ks_0 : Cond.selects R_AL y_AL_add3 y_AL_add3 ∈ TT := TT_at 0 (by decide +kernel) (by decide +kernel)
theorem ks_1 : Cond.selects R_AL y_AL_grow y_AL_grow ∈ TT := TT_at 1 (by decide +kernel) (by decide +kernel)
theorem ks_2 : Cond.selects R_AL y_AL_growI y_AL_growI ∈ TT := TT_at 2 (by decide +kernel) (by decide +kernel)
theorem ks_3 : Cond.selects R_MB y_MB_isRule y_MB_isRule ∈ TT := TT_at 3 (by decide +kernel) (by decide +kernel)
theorem ks_4 : Cond.selects R_MB y_MB_noteAndRespond y_MB_noteAndRespond ∈ TT := TT_at 4 (by decide +kernel) (by decide +kernel)
theorem ks_5 : Cond.selects R_MB y_MB_ruleNumberFor y_MB_ruleNumberFor ∈ TT := TT_at 5 (by decide +kernel) (by decide +kernel)
theorem ks_6 : Cond.selects R_MB y_MB_respond y_MB_respond ∈ TT := TT_at 6 (by decide +kernel) (by decide +kernel)
theorem ks_7 : Cond.selects R_MB y_MB_pass y_MB_pass ∈ TT := TT_at 7 (by decide +kernel) (by decide +kernel)
theorem ks_8 : Cond.selects R_MB y_MB_countSought y_MB_countSought ∈ TT := TT_at 8 (by decide +kernel) (by decide +kernel)
theorem ks_9 : Cond.selects R_MB y_MB_isSought y_MB_isSought ∈ TT := TT_at 9 (by decide +kernel) (by decide +kernel)
theorem ks_10 : Cond.selects R_MB y_MB_verifySought y_MB_verifySought ∈ TT := TT_at 10 (by decide +kernel) (by decide +kernel)
theorem ks_11 : Cond.selects R_MB y_MB_firstSoughtAfterMark y_MB_firstSoughtAfterMark ∈ TT := TT_at 11 (by decide +kernel) (by decide +kernel)
theorem ks_12 : Cond.selects R_MB y_MB_endRules y_MB_endRules ∈ TT := TT_at 12 (by decide +kernel) (by decide +kernel)
theorem ks_13 : Cond.selects R_MB y_MB_endInteractions y_MB_endInteractions ∈ TT := TT_at 13 (by decide +kernel) (by decide +kernel)
theorem ks_14 : Cond.selects R_MB y_MB_isInteraction y_MB_isInteraction ∈ TT := TT_at 14 (by decide +kernel) (by decide +kernel)
theorem ks_15 : Cond.selects R_MB y_MB_countLiveInteractions y_MB_countLiveInteractions ∈ TT := TT_at 15 (by decide +kernel) (by decide +kernel)
theorem ks_16 : Cond.selects R_MB y_MB_countLiveRules y_MB_countLiveRules ∈ TT := TT_at 16 (by decide +kernel) (by decide +kernel)
theorem ks_17 : Cond.selects R_MM y_MM_note y_MM_note ∈ TT := TT_at 17 (by decide +kernel) (by decide +kernel)
theorem ks_18 : Cond.selects R_MM y_MM_action y_MM_action ∈ TT := TT_at 18 (by decide +kernel) (by decide +kernel)
theorem ks_19 : Cond.selects R_MM y_MM_ruleFits y_MM_ruleFits ∈ TT := TT_at 19 (by decide +kernel) (by decide +kernel)
theorem ks_20 : Cond.selects R_MM y_MM_uses y_MM_uses ∈ TT := TT_at 20 (by decide +kernel) (by decide +kernel)
theorem ks_21 : Cond.selects R_MM y_MM_plain y_MM_plain ∈ TT := TT_at 21 (by decide +kernel) (by decide +kernel)
theorem ks_22 : Cond.selects R_MM y_MM_asked y_MM_asked ∈ TT := TT_at 22 (by decide +kernel) (by decide +kernel)
theorem i_MB : ∀ w ∈ u_ws R_MB F_MB 5, w ∈ TT := by decide +kernel
theorem i_Ma : ∀ w ∈ u_ws R_Ma F_Ma 3, w ∈ TT := by decide +kernel
theorem i_Ru : ∀ w ∈ u_ws R_Ru F_Ru 8, w ∈ TT := by decide +kernel
theorem i_In : ∀ w ∈ u_ws R_In F_In 11, w ∈ TT := by decide +kernel
theorem i_AL : ∀ w ∈ u_ws R_AL F_AL 3, w ∈ TT := by decide +kernel
theorem i_MM : ∀ w ∈ u_ws R_MM F_MM 24, w ∈ TT := by decide +kernel
end
section
/-! What every method of ours starts from, and how it calls another. TT: the tables' words that stay; gNW: the nest's and the casts' words; both stand among the names. -/
theorem gne {n k : gN} (h : n.1 ≠ k.1) : n ≠ k := fun e => h (congrArg Prod.fst e)
theorem gne2 {n k : gN} (h : n.2 ≠ k.2) : n ≠ k := fun e => h (congrArg Prod.snd e)
def gNest : Cond → Bool
  | .methodLinkNest .. => true
  | .castable .. => true
  | _ => false
theorem gNW_ok : ∀ w ∈ gNW, gNest w = true := by decide +kernel
theorem gNest_warm {s U : State} (hW : s.WarmedH U.vm) {w : Cond} (hw : gNest w = true) (h : va_Nw w s) : va_Nw w U := by
  cases w <;> first | exact va_Nw.warmM hW h | exact va_Nw.warmC hW h | exact absurd hw (by simp [gNest])
theorem gNest_same {u U : State} (hv : u.vm = U.vm) {w : Cond} (hw : gNest w = true) (h : va_Nw w u) : va_Nw w U := by
  cases w <;> first | exact va_Nw.same rfl hv h | exact absurd hw (by simp [gNest])
/-- the tables, the nest, the static that lists begin with, as the state U with the heap H has them -/
def gK (D : va_G) (tys : List (ClassId × FieldType)) (b e0 : Nat) (U : State) (H : Heap) : Prop :=
  va_K D classes tys U ∧ (∀ w ∈ gNW, va_Nw w U) ∧ va_AO "java/lang/Object" U ∧ va_Z "java/util/ArrayList" "DEFAULTCAPACITY_EMPTY_ELEMENTDATA" "[Ljava/lang/Object;" (.ref e0) (fun q => b ≤ q) U H ∧ va_Dc U ∧ ∃ mi : Nat, va_Mi "[Ljava/lang/Object;" mi U
theorem gK.go {D : va_G} {tys : List (ClassId × FieldType)} {b e0 : Nat} {s U : State} {H : Heap} {locs : List Loc} (h : gK D tys b e0 s s.heap) (hS : gS b s.heap H locs) (hU : U.heap = H) (hW : s.WarmedH U.vm) : gK D tys b e0 U U.heap :=
  ⟨va_K.moved hW.alike h.1, fun w hw => gNest_warm hW (gNW_ok w hw) (h.2.1 w hw), va_AO.moved hW.alike h.2.2.1, by rw [hU]; exact (va_Z.moved hW.alike h.2.2.2.1).kept (fun a h1 h2 => hS.2.1 a h1 h2), va_Dc.moved hW.alike h.2.2.2.2.1, h.2.2.2.2.2.elim fun mi hm => ⟨mi, va_Mi.moved hW.alike hm⟩⟩
theorem gK.calling {D : va_G} {tys : List (ClassId × FieldType)} {b e0 : Nat} {U : State} (h : gK D tys b e0 U U.heap) (g : JFrame) (mk : MethodId) (a : Array Value) : gK D tys b e0 (U.calling g mk a) (U.calling g mk a).heap :=
  ⟨va_K.moved (u := U) (U := U.calling g mk a) (Vm.Alike.refl U.vm) h.1, fun w hw => gNest_same (u := U) (U := U.calling g mk a) rfl (gNW_ok w hw) (h.2.1 w hw), va_AO.moved (u := U) (U := U.calling g mk a) (Vm.Alike.refl U.vm) h.2.2.1, va_Z.moved (u := U) (U := U.calling g mk a) (Vm.Alike.refl U.vm) h.2.2.2.1, va_Dc.moved (u := U) (U := U.calling g mk a) (Vm.Alike.refl U.vm) h.2.2.2.2.1, h.2.2.2.2.2.elim fun mi hm => ⟨mi, va_Mi.moved (u := U) (U := U.calling g mk a) (Vm.Alike.refl U.vm) hm⟩⟩
/-- a method of ours starts with the world A -/
def gI (D : va_G) (tys : List (ClassId × FieldType)) (b e0 : Nat) (A : gW) (U : State) : Prop := gP D classes b A U.heap ∧ gK D tys b e0 U U.heap
theorem gI.pre {D : va_G} {tys : List (ClassId × FieldType)} {b e0 : Nat} {A : gW} {s : State} {H : Heap} {locs : List Loc} (hK : gK D tys b e0 s s.heap) (hS : gS b s.heap H locs) (hP : gP D classes b A H) (As : List Value) : PreS s H (va_Pc As (gI D tys b e0 A)) As :=
  ⟨fun a U g mk q => ⟨q.1, q.2.1, gK.calling q.2.2 g mk a⟩, fun U hU hW => ⟨rfl, by rw [hU]; exact hP, hK.go hS hU hW⟩⟩
theorem gI.preV {D : va_G} {tys : List (ClassId × FieldType)} {b e0 : Nat} {A : gW} {s : State} {H : Heap} {locs : List Loc} (hK : gK D tys b e0 s s.heap) (hS : gS b s.heap H locs) (hP : gP D classes b A H) {n : gN} {a ci : Nat} {fs : List Value} (he : A n = some (a, .inr (ci, fs))) {q : vw_C} (hc : classes[ci]? = some q) (As : List Value) : PreV s H q.1 a (va_Pc (.ref a :: As) (gI D tys b e0 A)) As :=
  ⟨(gI.pre hK hS hP (.ref a :: As)).1, va_recv (q0 := 0) hK.1 (hP.one he) hc rfl, (gI.pre hK hS hP (.ref a :: As)).2⟩
theorem gT_pre {s : State} {H : Heap} (As : List Value) : PreS s H (va_Pc As (fun _ => True)) As := ⟨fun _ _ _ _ q => q, fun _ _ _ => ⟨rfl, trivial⟩⟩
theorem TT_in {w : Cond} (h : w ∈ TT) : GoodIn TT (w :: TT) := by
  intro x hx
  have hx' : x ∈ TT := by
    rcases List.mem_cons.mp hx with e | e
    · rw [e]; exact h
    · exact e
  exact ⟨hx', good_of_word (TT_good x hx')⟩
/-- a method, its code among the words: proved from its body -/
theorem Met.ofG {l : Launch} {y : MethodName} {rm : Room} {I : State → Prop} {Qc : Array Value → State → Outcome → State → Prop} {mc ms : Nat} {free : Addr → Prop} {cc : ByteArray} {maxL : Nat} {ret : Option FieldType} {av : List Value} {own : String} (hy : plainName y.cls = true) (hyc : y.cls = own) (hsz : (lg_sl av).length ≤ maxL)
    (body : ∀ (p : Program) (e : Env) (s : State) (m : MethodId) (below : List Frame) (meth : Method) (c : Code) (ls : Array Slot), p.tables.exec = Jvm.exec → c.code = cc → meth.sig.returnType = ret → meth.locks = false → c.maxLocals = maxL → s.vm.findClass own = some m.cls → meth.name = y.name → (∀ w ∈ TT, w.before av.toArray s = true) → I s → lv_has ls maxL (lv_args 0 av) →
      W p l e rm s m av.toArray below meth c s.heap [] 0 0 (MQ below Qc av.toArray s mc ms free) (F0 m 0 ls [])) : Met l y (Cond.code y cc maxL ret :: TT) rm (va_Pc av I) Qc mc ms free := by
  refine Met.ofW (cc := cc) (maxL := maxL) (ret := ret) hy rfl ?_
  intro p e s m args below meth c s₁ B hml hv
  obtain ⟨rfl, hI⟩ := hv
  have hts := atoms_spec (ws := Cond.code y cc maxL ret :: TT) B.pre
  have hown : s.vm.findClass own = some m.cls := hyc ▸ findClass_of_methodNamed B.named
  have hl := lv_entry av (n := maxL) hsz
  rw [lg_entry_eq]
  exact body p e s m below meth c _ B.exec B.bytes B.returns B.notSynchronized hml hown (name_of_methodNamed B.named B.method).1 (fun w h => hts w (List.mem_cons_of_mem _ h)) hI hl
/-- the same of a member that the machine has no entry for -/
theorem Met.ofGF {l : Launch} {y : MethodName} {rm : Room} {I : State → Prop} {Qc : Array Value → State → Outcome → State → Prop} {mc ms : Nat} {free : Addr → Prop} {cc : ByteArray} {maxL : Nat} {ret : Option FieldType} {av : List Value} {own : String} (hy : plainFor y = true) (hyc : y.cls = own) (hsz : (lg_sl av).length ≤ maxL)
    (body : ∀ (p : Program) (e : Env) (s : State) (m : MethodId) (below : List Frame) (meth : Method) (c : Code) (ls : Array Slot), p.tables.exec = Jvm.exec → c.code = cc → meth.sig.returnType = ret → meth.locks = false → c.maxLocals = maxL → s.vm.findClass own = some m.cls → meth.name = y.name → (∀ w ∈ TT, w.before av.toArray s = true) → I s → lv_has ls maxL (lv_args 0 av) →
      W p l e rm s m av.toArray below meth c s.heap [] 0 0 (MQ below Qc av.toArray s mc ms free) (F0 m 0 ls [])) : Met l y (Cond.code y cc maxL ret :: TT) rm (va_Pc av I) Qc mc ms free := by
  refine va_MetF (cc := cc) (maxL := maxL) (ret := ret) hy rfl ?_
  intro p e s m args below meth c s₁ B hml hv
  obtain ⟨rfl, hI⟩ := hv
  have hts := atoms_spec (ws := Cond.code y cc maxL ret :: TT) B.pre
  have hown : s.vm.findClass own = some m.cls := hyc ▸ findClass_of_methodNamed B.named
  have hl := lv_entry av (n := maxL) hsz
  rw [lg_entry_eq]
  exact body p e s m below meth c _ B.exec B.bytes B.returns B.notSynchronized hml hown (name_of_methodNamed B.named B.method).1 (fun w h => hts w (List.mem_cons_of_mem _ h)) hI hl
abbrev gNo (y : MethodName) (n : Nat) : Prop := y.cls ≠ "java/lang/invoke/MethodHandle" ∧ y.cls ≠ "java/lang/invoke/VarHandle" ∧ (parseMethodDescriptor y.desc).map (fun d => d.parameters.length) = some n
/-- what the tables say of a static method, an instance method, a constructor -/
def gStat (y : MethodName) (bytes : ByteArray) (maxL : Nat) (ret : Option FieldType) (n : Nat) : Prop := Cond.code y bytes maxL ret ∈ TT ∧ Cond.static y ∈ TT ∧ Cond.initialized y.cls ∈ TT ∧ gNo y n
def gVirt (y : MethodName) (bytes : ByteArray) (maxL : Nat) (ret : Option FieldType) (n : Nat) : Prop := Cond.code y bytes maxL ret ∈ TT ∧ Cond.instanceMethod y ∈ TT ∧ Cond.initialized y.cls ∈ TT ∧ Cond.selects y.cls y y ∈ TT ∧ gNo y n
def gInit (y : MethodName) (bytes : ByteArray) (maxL : Nat) (n : Nat) : Prop := Cond.code y bytes maxL none ∈ TT ∧ Cond.instanceMethod y ∈ TT ∧ Cond.initialized y.cls ∈ TT ∧ y.name = "<init>" ∧ gNo y n
def gRoom (rm R : Room) (maxL mc ms : Nat) : Prop := rm.cells = mc ∧ rm.slots = ms ∧ rm.frames + 1 ≤ R.frames ∧ 8 + (maxL + 11) + rm.locals ≤ R.locals
section GR
variable {p : Program} {l : Launch} {e : Env} {R : Room} {s : State} {m : MethodId} {args : Array Value} {below : List Frame} {meth : Method} {c : Code} {H : Heap} {locs : List Loc} {cells slots : Nat}
variable {y : MethodName} {bytes cc : ByteArray} {maxL nL mc ms n index : Nat} {ret : Option FieldType} {rm : Room} {Pc : Array Value → State → Prop} {Qc : Array Value → State → Outcome → State → Prop} {free : Addr → Prop} {own host : String} {b pc : Nat} {As rest st0 : List Value} {ls : Array Slot}
theorem g_runS (S : CallFix p m c cc nL s args TT own) (hM : Met l y (Cond.code y bytes maxL ret :: TT) rm Pc Qc mc ms free) (hg : gStat y bytes maxL ret n) (hl : Cond.methodLink own index y ∈ TT) (hR : gRoom rm R maxL mc ms) (hp : PreS s H Pc As)
    (hn : As.length = n) (hsize : ls.size = nL) (hstack : st0 = As.reverse ++ rest) (hW : (rest.map fun v => v.category).sum ≤ 8) (hdg : decode cc pc = .ok (.invokestatic index, 3)) (hf : cells + mc ≤ R.cells ∧ slots + ms ≤ R.slots) :
    va_Run p l e R s m args below meth c H locs cells slots mc ms (F0 m pc ls st0) rest (Qc As.toArray) free := by
  have hts := S.2.2.2.2
  exact va_runS S hM ⟨callB_of n hts (TT_in hg.1) rfl hR.1 hR.2.1 (hts _ hg.2.2.1) (hts _ hl) hg.2.2.2 hR.2.2, hts _ hg.2.1⟩ hp rfl hn hsize hstack (lv_room hW) hdg hf
theorem g_runV (S : CallFix p m c cc nL s args TT own) (hM : Met l y (Cond.code y bytes maxL ret :: TT) rm Pc Qc mc ms free) (hg : gVirt y bytes maxL ret n) (hl : Cond.methodLink own index y ∈ TT) (hR : gRoom rm R maxL mc ms) {C : String} (hC : y.cls = C) (hp : PreV s H C b Pc As)
    (hn : As.length = n) (hsize : ls.size = nL) (hstack : st0 = As.reverse ++ .ref b :: rest) (hW : (rest.map fun v => v.category).sum ≤ 8) (hdg : decode cc pc = .ok (.invokevirtual index, 3)) (hf : cells + mc ≤ R.cells ∧ slots + ms ≤ R.slots) :
    va_Run p l e R s m args below meth c H locs cells slots mc ms (F0 m pc ls st0) rest (Qc (Value.ref b :: As).toArray) free := by
  subst hC
  have hts := S.2.2.2.2
  exact va_runV S hM ⟨callB_of n hts (TT_in hg.1) rfl hR.1 hR.2.1 (hts _ hg.2.2.1) (hts _ hl) hg.2.2.2.2 hR.2.2, hts _ hg.2.1, hts _ hg.2.2.2.1⟩ hp rfl hn hsize hstack (lv_room hW) hdg hf
theorem g_runI (S : CallFix p m c cc nL s args TT own) (hM : Met l y (Cond.code y bytes maxL none :: TT) rm Pc Qc mc ms free) (hg : gInit y bytes maxL n) (hl : Cond.methodLink own index y ∈ TT) (hR : gRoom rm R maxL mc ms) (hp : PreS s H Pc (.ref b :: As))
    (hn : As.length = n) (hsize : ls.size = nL) (hstack : st0 = As.reverse ++ .ref b :: rest) (hW : (rest.map fun v => v.category).sum ≤ 8) (hdg : decode cc pc = .ok (.invokespecial index, 3)) (hf : cells + mc ≤ R.cells ∧ slots + ms ≤ R.slots) :
    va_Run p l e R s m args below meth c H locs cells slots mc ms (F0 m pc ls st0) rest (Qc (Value.ref b :: As).toArray) free := by
  have hts := S.2.2.2.2
  exact va_runI S hM ⟨callB_of n hts (TT_in hg.1) rfl hR.1 hR.2.1 (hts _ hg.2.2.1) (hts _ hl) hg.2.2.2.2 hR.2.2, hg.2.2.2.1, hts _ hg.2.1⟩ hp rfl hn hsize hstack (lv_room hW) hdg hf
theorem g_runSN (S : CallFix p m c cc nL s args TT own) (hM : Met l y (Cond.code y bytes maxL ret :: TT) rm Pc Qc mc ms free) (hg : gStat y bytes maxL ret n) (hl : va_Nw (.methodLinkNest own index y host) s) (hR : gRoom rm R maxL mc ms) (hp : PreS s H Pc As)
    (hn : As.length = n) (hsize : ls.size = nL) (hstack : st0 = As.reverse ++ rest) (hW : (rest.map fun v => v.category).sum ≤ 8) (hdg : decode cc pc = .ok (.invokestatic index, 3)) (hf : cells + mc ≤ R.cells ∧ slots + ms ≤ R.slots) :
    va_Run p l e R s m args below meth c H locs cells slots mc ms (F0 m pc ls st0) rest (Qc As.toArray) free := by
  have hts := S.2.2.2.2
  exact va_runSN (host := host) S hM ⟨va_cnB n hts (TT_in hg.1) rfl hR.1 hR.2.1 hl (hts _ hg.2.2.1) hg.2.2.2 hR.2.2, hts _ hg.2.1, trivial⟩ hp rfl hn hsize hstack (lv_room hW) hdg hf
theorem g_runIN (S : CallFix p m c cc nL s args TT own) (hM : Met l y (Cond.code y bytes maxL none :: TT) rm Pc Qc mc ms free) (hg : gInit y bytes maxL n) (hl : va_Nw (.methodLinkNest own index y host) s) (hR : gRoom rm R maxL mc ms) (hp : PreS s H Pc (.ref b :: As))
    (hn : As.length = n) (hsize : ls.size = nL) (hstack : st0 = As.reverse ++ .ref b :: rest) (hW : (rest.map fun v => v.category).sum ≤ 8) (hdg : decode cc pc = .ok (.invokespecial index, 3)) (hf : cells + mc ≤ R.cells ∧ slots + ms ≤ R.slots) :
    va_Run p l e R s m args below meth c H locs cells slots mc ms (F0 m pc ls st0) rest (Qc (Value.ref b :: As).toArray) free := by
  have hts := S.2.2.2.2
  exact va_runIN (host := host) S hM ⟨va_cnB n hts (TT_in hg.1) rfl hR.1 hR.2.1 hl (hts _ hg.2.2.1) hg.2.2.2.2 hR.2.2, hg.2.2.2.1, hts _ hg.2.1⟩ hp rfl hn hsize hstack (lv_room hW) hdg hf
end GR
end
section
/-! what the tables say of each method -/
theorem st_MB_init : gInit y_MB_init b_MB_init 1 0 := ⟨k_19, k_18, k_1, rfl, (by decide +kernel)⟩
theorem st_AL_init : gInit y_AL_init b_AL_init 1 0 := ⟨k_27, k_26, k_4, rfl, (by decide +kernel)⟩
theorem st_Li_init : gInit y_Li_init b_Li_init 1 0 := ⟨k_30, k_29, k_3, rfl, (by decide +kernel)⟩
theorem st_Co_init : gInit y_Co_init b_Co_init 1 0 := ⟨k_33, k_32, k_2, rfl, (by decide +kernel)⟩
theorem st_Ma_init : gInit y_Ma_init b_Ma_init 1 0 := ⟨k_53, k_52, k_5, rfl, (by decide +kernel)⟩
theorem st_MB_matcher : gVirt y_MB_matcher b_MB_matcher 3 (some .int) 2 := ⟨k_87, k_85, k_1, k_86, (by decide +kernel)⟩
theorem st_MB_isWithin : gStat y_MB_isWithin b_MB_isWithin 3 (some .boolean) 3 := ⟨k_90, k_89, k_1, (by decide +kernel)⟩
theorem st_Ma_add : gVirt y_Ma_add b_Ma_add 3 none 2 := ⟨k_94, k_92, k_5, k_93, (by decide +kernel)⟩
theorem st_MB_drop : gVirt y_MB_drop b_MB_drop 1 none 0 := ⟨k_98, k_96, k_1, k_97, (by decide +kernel)⟩
theorem st_Ma_clear : gVirt y_Ma_clear b_Ma_clear 1 none 0 := ⟨k_102, k_100, k_5, k_101, (by decide +kernel)⟩
theorem st_MB_rule : gVirt y_MB_rule b_MB_rule 3 (some .int) 2 := ⟨k_106, k_104, k_1, k_105, (by decide +kernel)⟩
theorem st_MB_isMethod : gStat y_MB_isMethod b_MB_isMethod 2 (some .boolean) 2 := ⟨k_109, k_108, k_1, (by decide +kernel)⟩
theorem st_MB_isMock : gStat y_MB_isMock b_MB_isMock 1 (some .boolean) 1 := ⟨k_112, k_111, k_1, (by decide +kernel)⟩
theorem st_Ma_suits : gVirt y_Ma_suits b_Ma_suits 2 (some .boolean) 1 := ⟨k_116, k_114, k_5, k_115, (by decide +kernel)⟩
theorem st_MB_argumentsOf : gStat y_MB_argumentsOf b_MB_argumentsOf 1 (some .int) 1 := ⟨k_119, k_118, k_1, (by decide +kernel)⟩
theorem st_AL_size : gVirt y_AL_size b_AL_size 1 (some .int) 0 := ⟨k_123, k_121, k_4, k_122, (by decide +kernel)⟩
theorem st_Ru_init : gInit y_Ru_init b_Ru_init 4 3 := ⟨k_128, k_127, k_7, rfl, (by decide +kernel)⟩
theorem st_AL_add : gVirt y_AL_add b_AL_add 2 (some .boolean) 1 := ⟨k_164, k_162, k_4, k_163, (by decide +kernel)⟩
theorem st_AL_add3 : gVirt y_AL_add3 b_AL_add3 4 none 3 := ⟨k_168, k_167, k_4, ks_0, (by decide +kernel)⟩
theorem st_AL_grow : gVirt y_AL_grow b_AL_grow 1 (some (.array (.object "java/lang/Object"))) 0 := ⟨k_172, k_171, k_4, ks_1, (by decide +kernel)⟩
theorem st_AL_growI : gVirt y_AL_growI b_AL_growI 4 (some (.array (.object "java/lang/Object"))) 1 := ⟨k_176, k_175, k_4, ks_2, (by decide +kernel)⟩
theorem st_As_newLength : gStat y_As_newLength b_As_newLength 4 (some .int) 3 := ⟨k_179, k_178, k_8, (by decide +kernel)⟩
theorem st_Mt_max : gStat y_Mt_max b_Mt_max 2 (some .int) 2 := ⟨k_182, k_181, k_9, (by decide +kernel)⟩
theorem st_As_hugeLength : gStat y_As_hugeLength b_As_hugeLength 3 (some .int) 2 := ⟨k_186, k_185, k_8, (by decide +kernel)⟩
theorem st_Ar_copyOf : gStat y_Ar_copyOf b_Ar_copyOf 2 (some (.array (.object "java/lang/Object"))) 2 := ⟨k_189, k_188, k_10, (by decide +kernel)⟩
theorem st_Ar_copyOf3 : gStat y_Ar_copyOf3 b_Ar_copyOf3 4 (some (.array (.object "java/lang/Object"))) 3 := ⟨k_202, k_201, k_10, (by decide +kernel)⟩
theorem st_Mt_min : gStat y_Mt_min b_Mt_min 2 (some .int) 2 := ⟨k_208, k_207, k_9, (by decide +kernel)⟩
theorem st_MB_then : gVirt y_MB_then b_MB_then 5 (some .int) 3 := ⟨k_217, k_215, k_1, k_216, (by decide +kernel)⟩
theorem st_MB_isRule : gVirt y_MB_isRule b_MB_isRule 2 (some .boolean) 1 := ⟨k_221, k_220, k_1, ks_3, (by decide +kernel)⟩
theorem st_AL_get : gVirt y_AL_get b_AL_get 2 (some (.object "java/lang/Object")) 1 := ⟨k_225, k_223, k_4, k_224, (by decide +kernel)⟩
theorem st_Os_checkIndex : gStat y_Os_checkIndex b_Os_checkIndex 2 (some .int) 2 := ⟨k_228, k_227, k_12, (by decide +kernel)⟩
theorem st_Pc_checkIndex : gStat y_Pc_checkIndex b_Pc_checkIndex 3 (some .int) 3 := ⟨k_231, k_230, k_13, (by decide +kernel)⟩
theorem st_AL_elementData : gVirt y_AL_elementData b_AL_elementData 2 (some (.object "java/lang/Object")) 1 := ⟨k_235, k_233, k_4, k_234, (by decide +kernel)⟩
theorem st_Ru_allows : gVirt y_Ru_allows b_Ru_allows 3 (some .boolean) 2 := ⟨k_239, k_237, k_7, k_238, (by decide +kernel)⟩
theorem st_Ru_addAction : gVirt y_Ru_addAction b_Ru_addAction 3 none 2 := ⟨k_245, k_243, k_7, k_244, (by decide +kernel)⟩
theorem st_MB_strict : gVirt y_MB_strict b_MB_strict 4 (some .int) 2 := ⟨k_249, k_247, k_1, k_248, (by decide +kernel)⟩
theorem st_MB_asNumber : gStat y_MB_asNumber b_MB_asNumber 1 (some .int) 1 := ⟨k_252, k_251, k_1, (by decide +kernel)⟩
theorem st_MB_call : gVirt y_MB_call b_MB_call 6 (some .long) 5 := ⟨k_256, k_254, k_1, k_255, (by decide +kernel)⟩
theorem st_MB_noteAndRespond : gVirt y_MB_noteAndRespond b_MB_noteAndRespond 10 (some .long) 7 := ⟨k_261, k_260, k_1, ks_4, (by decide +kernel)⟩
theorem st_In_init : gInit y_In_init b_In_init 9 7 := ⟨k_267, k_266, k_14, rfl, (by decide +kernel)⟩
theorem st_MB_ruleNumberFor : gVirt y_MB_ruleNumberFor b_MB_ruleNumberFor 3 (some .int) 1 := ⟨k_321, k_320, k_1, ks_5, (by decide +kernel)⟩
theorem st_Ru_answersTo : gVirt y_Ru_answersTo b_Ru_answersTo 2 (some .boolean) 1 := ⟨k_325, k_323, k_7, k_324, (by decide +kernel)⟩
theorem st_Ma_fit : gVirt y_Ma_fit b_Ma_fit 3 (some .boolean) 1 := ⟨k_329, k_327, k_5, k_328, (by decide +kernel)⟩
theorem st_In_argument : gVirt y_In_argument b_In_argument 2 (some .int) 1 := ⟨k_333, k_331, k_14, k_332, (by decide +kernel)⟩
theorem st_Ma_fitsOne : gStat y_Ma_fitsOne b_Ma_fitsOne 3 (some .boolean) 3 := ⟨k_336, k_335, k_5, (by decide +kernel)⟩
theorem st_Mt_floorMod : gStat y_Mt_floorMod b_Mt_floorMod 3 (some .int) 2 := ⟨k_339, k_338, k_9, (by decide +kernel)⟩
theorem st_MB_respond : gVirt y_MB_respond b_MB_respond 8 (some .long) 3 := ⟨k_343, k_342, k_1, ks_6, (by decide +kernel)⟩
theorem st_Ru_placeInTurn : gVirt y_Ru_placeInTurn b_Ru_placeInTurn 1 (some .int) 0 := ⟨k_348, k_346, k_7, k_347, (by decide +kernel)⟩
theorem st_MB_pass : gVirt y_MB_pass b_MB_pass 7 (some .long) 4 := ⟨k_356, k_355, k_1, ks_7, (by decide +kernel)⟩
theorem st_MB_verify : gVirt y_MB_verify b_MB_verify 7 (some .int) 4 := ⟨k_360, k_358, k_1, k_359, (by decide +kernel)⟩
theorem st_MB_countSought : gVirt y_MB_countSought b_MB_countSought 5 (some .int) 2 := ⟨k_364, k_363, k_1, ks_8, (by decide +kernel)⟩
theorem st_MB_isSought : gVirt y_MB_isSought b_MB_isSought 4 (some .boolean) 3 := ⟨k_368, k_367, k_1, ks_9, (by decide +kernel)⟩
theorem st_MB_isWanted : gStat y_MB_isWanted b_MB_isWanted 3 (some .boolean) 3 := ⟨k_372, k_371, k_1, (by decide +kernel)⟩
theorem st_MB_verifySought : gVirt y_MB_verifySought b_MB_verifySought 5 none 2 := ⟨k_376, k_375, k_1, ks_10, (by decide +kernel)⟩
theorem st_MB_inOrder : gVirt y_MB_inOrder b_MB_inOrder 4 (some .int) 2 := ⟨k_380, k_378, k_1, k_379, (by decide +kernel)⟩
theorem st_MB_firstSoughtAfterMark : gVirt y_MB_firstSoughtAfterMark b_MB_firstSoughtAfterMark 4 (some .int) 2 := ⟨k_384, k_383, k_1, ks_11, (by decide +kernel)⟩
theorem st_MB_rewind : gVirt y_MB_rewind b_MB_rewind 2 (some .int) 0 := ⟨k_388, k_386, k_1, k_387, (by decide +kernel)⟩
theorem st_MB_open : gVirt y_MB_open b_MB_open 4 (some .int) 1 := ⟨k_392, k_390, k_1, k_391, (by decide +kernel)⟩
theorem st_MB_unused : gVirt y_MB_unused b_MB_unused 3 (some .int) 0 := ⟨k_396, k_394, k_1, k_395, (by decide +kernel)⟩
theorem st_MB_reset : gVirt y_MB_reset b_MB_reset 2 (some .int) 1 := ⟨k_400, k_398, k_1, k_399, (by decide +kernel)⟩
theorem st_MB_endRules : gVirt y_MB_endRules b_MB_endRules 4 none 1 := ⟨k_404, k_403, k_1, ks_12, (by decide +kernel)⟩
theorem st_MB_endInteractions : gVirt y_MB_endInteractions b_MB_endInteractions 5 (some .int) 1 := ⟨k_408, k_407, k_1, ks_13, (by decide +kernel)⟩
theorem st_MB_noted : gVirt y_MB_noted b_MB_noted 4 (some .long) 2 := ⟨k_412, k_410, k_1, k_411, (by decide +kernel)⟩
theorem st_MB_isInteraction : gVirt y_MB_isInteraction b_MB_isInteraction 2 (some .boolean) 1 := ⟨k_416, k_415, k_1, ks_14, (by decide +kernel)⟩
theorem st_MB_answer : gVirt y_MB_answer b_MB_answer 2 (some .long) 1 := ⟨k_420, k_418, k_1, k_419, (by decide +kernel)⟩
theorem st_MB_about : gVirt y_MB_about b_MB_about 4 (some .int) 2 := ⟨k_424, k_422, k_1, k_423, (by decide +kernel)⟩
theorem st_MB_count : gVirt y_MB_count b_MB_count 2 (some .int) 1 := ⟨k_428, k_426, k_1, k_427, (by decide +kernel)⟩
theorem st_MB_countLiveInteractions : gVirt y_MB_countLiveInteractions b_MB_countLiveInteractions 5 (some .int) 1 := ⟨k_432, k_431, k_1, ks_15, (by decide +kernel)⟩
theorem st_MB_countLiveRules : gVirt y_MB_countLiveRules b_MB_countLiveRules 3 (some .int) 0 := ⟨k_436, k_435, k_1, ks_16, (by decide +kernel)⟩
theorem st_MM_init : gInit y_MM_init b_MM_init 1 0 := ⟨k_441, k_440, k_6, rfl, (by decide +kernel)⟩
theorem st_MM_matcher : gVirt y_MM_matcher b_MM_matcher 3 (some .int) 2 := ⟨k_520, k_518, k_6, k_519, (by decide +kernel)⟩
theorem st_MM_drop : gVirt y_MM_drop b_MM_drop 1 none 0 := ⟨k_524, k_522, k_6, k_523, (by decide +kernel)⟩
theorem st_MM_rule : gVirt y_MM_rule b_MM_rule 4 (some .int) 2 := ⟨k_528, k_526, k_6, k_527, (by decide +kernel)⟩
theorem st_MM_bad : gStat y_MM_bad b_MM_bad 2 (some .boolean) 2 := ⟨k_531, k_530, k_6, (by decide +kernel)⟩
theorem st_MM_then : gVirt y_MM_then b_MM_then 5 (some .int) 3 := ⟨k_535, k_533, k_6, k_534, (by decide +kernel)⟩
theorem st_MM_strict : gVirt y_MM_strict b_MM_strict 4 (some .int) 2 := ⟨k_539, k_537, k_6, k_538, (by decide +kernel)⟩
theorem st_MM_call : gVirt y_MM_call b_MM_call 11 (some .long) 5 := ⟨k_543, k_541, k_6, k_542, (by decide +kernel)⟩
theorem st_MM_note : gVirt y_MM_note b_MM_note 6 (some .int) 4 := ⟨k_548, k_547, k_6, ks_17, (by decide +kernel)⟩
theorem st_MM_action : gVirt y_MM_action b_MM_action 4 (some .int) 1 := ⟨k_552, k_551, k_6, ks_18, (by decide +kernel)⟩
theorem st_MM_ruleFits : gVirt y_MM_ruleFits b_MM_ruleFits 4 (some .boolean) 2 := ⟨k_556, k_555, k_6, ks_19, (by decide +kernel)⟩
theorem st_MM_fits : gStat y_MM_fits b_MM_fits 3 (some .boolean) 3 := ⟨k_559, k_558, k_6, (by decide +kernel)⟩
theorem st_MM_uses : gVirt y_MM_uses b_MM_uses 5 (some .int) 2 := ⟨k_563, k_562, k_6, ks_20, (by decide +kernel)⟩
theorem st_MM_plain : gVirt y_MM_plain b_MM_plain 3 (some .long) 2 := ⟨k_567, k_566, k_6, ks_21, (by decide +kernel)⟩
theorem st_MM_verify : gVirt y_MM_verify b_MM_verify 8 (some .int) 4 := ⟨k_574, k_572, k_6, k_573, (by decide +kernel)⟩
theorem st_MM_asked : gVirt y_MM_asked b_MM_asked 5 (some .boolean) 3 := ⟨k_578, k_577, k_6, ks_22, (by decide +kernel)⟩
theorem st_MM_inOrder : gVirt y_MM_inOrder b_MM_inOrder 5 (some .int) 2 := ⟨k_582, k_580, k_6, k_581, (by decide +kernel)⟩
theorem st_MM_rewind : gVirt y_MM_rewind b_MM_rewind 2 (some .int) 0 := ⟨k_586, k_584, k_6, k_585, (by decide +kernel)⟩
theorem st_MM_open : gVirt y_MM_open b_MM_open 3 (some .int) 1 := ⟨k_590, k_588, k_6, k_589, (by decide +kernel)⟩
theorem st_MM_unused : gVirt y_MM_unused b_MM_unused 2 (some .int) 0 := ⟨k_594, k_592, k_6, k_593, (by decide +kernel)⟩
theorem st_MM_reset : gVirt y_MM_reset b_MM_reset 4 (some .int) 1 := ⟨k_598, k_596, k_6, k_597, (by decide +kernel)⟩
theorem st_MM_noted : gVirt y_MM_noted b_MM_noted 3 (some .long) 2 := ⟨k_602, k_600, k_6, k_601, (by decide +kernel)⟩
theorem st_MM_answer : gVirt y_MM_answer b_MM_answer 2 (some .long) 1 := ⟨k_606, k_604, k_6, k_605, (by decide +kernel)⟩
theorem st_MM_about : gVirt y_MM_about b_MM_about 3 (some .int) 2 := ⟨k_610, k_608, k_6, k_609, (by decide +kernel)⟩
theorem st_MM_count : gVirt y_MM_count b_MM_count 4 (some .int) 1 := ⟨k_614, k_612, k_6, k_613, (by decide +kernel)⟩
end
section
theorem d_MB_init_0 : decode b_MB_init 0 = .ok (.aload_n 0, 1) := by decide +kernel
theorem d_MB_init_1 : decode b_MB_init 1 = .ok (.invokespecial 1, 3) := by decide +kernel
theorem d_MB_init_4 : decode b_MB_init 4 = .ok (.aload_n 0, 1) := by decide +kernel
theorem d_MB_init_5 : decode b_MB_init 5 = .ok (.new 7, 3) := by decide +kernel
theorem d_MB_init_8 : decode b_MB_init 8 = .ok (.dup, 1) := by decide +kernel
theorem d_MB_init_9 : decode b_MB_init 9 = .ok (.invokespecial 9, 3) := by decide +kernel
theorem d_MB_init_12 : decode b_MB_init 12 = .ok (.putfield 10, 3) := by decide +kernel
theorem d_MB_init_15 : decode b_MB_init 15 = .ok (.aload_n 0, 1) := by decide +kernel
theorem d_MB_init_16 : decode b_MB_init 16 = .ok (.new 7, 3) := by decide +kernel
theorem d_MB_init_19 : decode b_MB_init 19 = .ok (.dup, 1) := by decide +kernel
theorem d_MB_init_20 : decode b_MB_init 20 = .ok (.invokespecial 9, 3) := by decide +kernel
theorem d_MB_init_23 : decode b_MB_init 23 = .ok (.putfield 16, 3) := by decide +kernel
theorem d_MB_init_26 : decode b_MB_init 26 = .ok (.aload_n 0, 1) := by decide +kernel
theorem d_MB_init_27 : decode b_MB_init 27 = .ok (.iconst 4, 1) := by decide +kernel
theorem d_MB_init_28 : decode b_MB_init 28 = .ok (.newarray .boolean, 2) := by decide +kernel
theorem d_MB_init_30 : decode b_MB_init 30 = .ok (.putfield 19, 3) := by decide +kernel
theorem d_MB_init_33 : decode b_MB_init 33 = .ok (.aload_n 0, 1) := by decide +kernel
theorem d_MB_init_34 : decode b_MB_init 34 = .ok (.new 23, 3) := by decide +kernel
theorem d_MB_init_37 : decode b_MB_init 37 = .ok (.dup, 1) := by decide +kernel
theorem d_MB_init_38 : decode b_MB_init 38 = .ok (.invokespecial 25, 3) := by decide +kernel
theorem d_MB_init_41 : decode b_MB_init 41 = .ok (.putfield 26, 3) := by decide +kernel
theorem d_MB_init_44 : decode b_MB_init 44 = .ok (.aload_n 0, 1) := by decide +kernel
theorem d_MB_init_45 : decode b_MB_init 45 = .ok (.iconst (-1), 1) := by decide +kernel
theorem d_MB_init_46 : decode b_MB_init 46 = .ok (.putfield 30, 3) := by decide +kernel
theorem d_MB_init_49 : decode b_MB_init 49 = .ok (.return_, 1) := by decide +kernel
theorem d_Ma_init_0 : decode b_Ma_init 0 = .ok (.aload_n 0, 1) := by decide +kernel
theorem d_Ma_init_1 : decode b_Ma_init 1 = .ok (.invokespecial 3, 3) := by decide +kernel
theorem d_Ma_init_4 : decode b_Ma_init 4 = .ok (.aload_n 0, 1) := by decide +kernel
theorem d_Ma_init_5 : decode b_Ma_init 5 = .ok (.iconst 3, 1) := by decide +kernel
theorem d_Ma_init_6 : decode b_Ma_init 6 = .ok (.newarray .int, 2) := by decide +kernel
theorem d_Ma_init_8 : decode b_Ma_init 8 = .ok (.putfield 9, 3) := by decide +kernel
theorem d_Ma_init_11 : decode b_Ma_init 11 = .ok (.aload_n 0, 1) := by decide +kernel
theorem d_Ma_init_12 : decode b_Ma_init 12 = .ok (.iconst 3, 1) := by decide +kernel
theorem d_Ma_init_13 : decode b_Ma_init 13 = .ok (.newarray .int, 2) := by decide +kernel
theorem d_Ma_init_15 : decode b_Ma_init 15 = .ok (.putfield 15, 3) := by decide +kernel
theorem d_Ma_init_18 : decode b_Ma_init 18 = .ok (.aload_n 0, 1) := by decide +kernel
theorem d_Ma_init_19 : decode b_Ma_init 19 = .ok (.iconst 0, 1) := by decide +kernel
theorem d_Ma_init_20 : decode b_Ma_init 20 = .ok (.putfield 18, 3) := by decide +kernel
theorem d_Ma_init_23 : decode b_Ma_init 23 = .ok (.return_, 1) := by decide +kernel
theorem d_MB_matcher_0 : decode b_MB_matcher 0 = .ok (.iload_n 1, 1) := by decide +kernel
theorem d_MB_matcher_1 : decode b_MB_matcher 1 = .ok (.iconst 0, 1) := by decide +kernel
theorem d_MB_matcher_2 : decode b_MB_matcher 2 = .ok (.iconst 5, 1) := by decide +kernel
theorem d_MB_matcher_3 : decode b_MB_matcher 3 = .ok (.invokestatic 34, 3) := by decide +kernel
theorem d_MB_matcher_6 : decode b_MB_matcher 6 = .ok (.ifCond .ne 5, 3) := by decide +kernel
theorem d_MB_matcher_9 : decode b_MB_matcher 9 = .ok (.iconst (-1), 1) := by decide +kernel
theorem d_MB_matcher_10 : decode b_MB_matcher 10 = .ok (.ireturn, 1) := by decide +kernel
theorem d_MB_matcher_11 : decode b_MB_matcher 11 = .ok (.aload_n 0, 1) := by decide +kernel
theorem d_MB_matcher_12 : decode b_MB_matcher 12 = .ok (.getfield 26, 3) := by decide +kernel
theorem d_MB_matcher_15 : decode b_MB_matcher 15 = .ok (.getfield 38, 3) := by decide +kernel
theorem d_MB_matcher_18 : decode b_MB_matcher 18 = .ok (.iconst 3, 1) := by decide +kernel
theorem d_MB_matcher_19 : decode b_MB_matcher 19 = .ok (.if_icmp .lt 6, 3) := by decide +kernel
theorem d_MB_matcher_22 : decode b_MB_matcher 22 = .ok (.bipush (-2), 2) := by decide +kernel
theorem d_MB_matcher_24 : decode b_MB_matcher 24 = .ok (.ireturn, 1) := by decide +kernel
theorem d_MB_matcher_25 : decode b_MB_matcher 25 = .ok (.aload_n 0, 1) := by decide +kernel
theorem d_MB_matcher_26 : decode b_MB_matcher 26 = .ok (.getfield 26, 3) := by decide +kernel
theorem d_MB_matcher_29 : decode b_MB_matcher 29 = .ok (.iload_n 1, 1) := by decide +kernel
theorem d_MB_matcher_30 : decode b_MB_matcher 30 = .ok (.iload_n 2, 1) := by decide +kernel
theorem d_MB_matcher_31 : decode b_MB_matcher 31 = .ok (.invokevirtual 41, 3) := by decide +kernel
theorem d_MB_matcher_34 : decode b_MB_matcher 34 = .ok (.aload_n 0, 1) := by decide +kernel
theorem d_MB_matcher_35 : decode b_MB_matcher 35 = .ok (.getfield 26, 3) := by decide +kernel
theorem d_MB_matcher_38 : decode b_MB_matcher 38 = .ok (.getfield 38, 3) := by decide +kernel
theorem d_MB_matcher_41 : decode b_MB_matcher 41 = .ok (.ireturn, 1) := by decide +kernel
theorem d_MB_isWithin_0 : decode b_MB_isWithin 0 = .ok (.iload_n 0, 1) := by decide +kernel
theorem d_MB_isWithin_1 : decode b_MB_isWithin 1 = .ok (.iload_n 1, 1) := by decide +kernel
theorem d_MB_isWithin_2 : decode b_MB_isWithin 2 = .ok (.if_icmp .lt 12, 3) := by decide +kernel
theorem d_MB_isWithin_5 : decode b_MB_isWithin 5 = .ok (.iload_n 0, 1) := by decide +kernel
theorem d_MB_isWithin_6 : decode b_MB_isWithin 6 = .ok (.iload_n 2, 1) := by decide +kernel
theorem d_MB_isWithin_7 : decode b_MB_isWithin 7 = .ok (.if_icmp .gt 7, 3) := by decide +kernel
theorem d_MB_isWithin_10 : decode b_MB_isWithin 10 = .ok (.iconst 1, 1) := by decide +kernel
theorem d_MB_isWithin_11 : decode b_MB_isWithin 11 = .ok (.goto 4, 3) := by decide +kernel
theorem d_MB_isWithin_14 : decode b_MB_isWithin 14 = .ok (.iconst 0, 1) := by decide +kernel
theorem d_MB_isWithin_15 : decode b_MB_isWithin 15 = .ok (.ireturn, 1) := by decide +kernel
theorem d_Ma_add_0 : decode b_Ma_add 0 = .ok (.aload_n 0, 1) := by decide +kernel
theorem d_Ma_add_1 : decode b_Ma_add 1 = .ok (.getfield 18, 3) := by decide +kernel
theorem d_Ma_add_4 : decode b_Ma_add 4 = .ok (.iconst 3, 1) := by decide +kernel
theorem d_Ma_add_5 : decode b_Ma_add 5 = .ok (.if_icmp .ge 33, 3) := by decide +kernel
theorem d_Ma_add_8 : decode b_Ma_add 8 = .ok (.aload_n 0, 1) := by decide +kernel
theorem d_Ma_add_9 : decode b_Ma_add 9 = .ok (.getfield 9, 3) := by decide +kernel
theorem d_Ma_add_12 : decode b_Ma_add 12 = .ok (.aload_n 0, 1) := by decide +kernel
theorem d_Ma_add_13 : decode b_Ma_add 13 = .ok (.getfield 18, 3) := by decide +kernel
theorem d_Ma_add_16 : decode b_Ma_add 16 = .ok (.iload_n 1, 1) := by decide +kernel
theorem d_Ma_add_17 : decode b_Ma_add 17 = .ok (.iastore, 1) := by decide +kernel
theorem d_Ma_add_18 : decode b_Ma_add 18 = .ok (.aload_n 0, 1) := by decide +kernel
theorem d_Ma_add_19 : decode b_Ma_add 19 = .ok (.getfield 15, 3) := by decide +kernel
theorem d_Ma_add_22 : decode b_Ma_add 22 = .ok (.aload_n 0, 1) := by decide +kernel
theorem d_Ma_add_23 : decode b_Ma_add 23 = .ok (.getfield 18, 3) := by decide +kernel
theorem d_Ma_add_26 : decode b_Ma_add 26 = .ok (.iload_n 2, 1) := by decide +kernel
theorem d_Ma_add_27 : decode b_Ma_add 27 = .ok (.iastore, 1) := by decide +kernel
theorem d_Ma_add_28 : decode b_Ma_add 28 = .ok (.aload_n 0, 1) := by decide +kernel
theorem d_Ma_add_29 : decode b_Ma_add 29 = .ok (.dup, 1) := by decide +kernel
theorem d_Ma_add_30 : decode b_Ma_add 30 = .ok (.getfield 18, 3) := by decide +kernel
theorem d_Ma_add_33 : decode b_Ma_add 33 = .ok (.iconst 1, 1) := by decide +kernel
theorem d_Ma_add_34 : decode b_Ma_add 34 = .ok (.iadd, 1) := by decide +kernel
theorem d_Ma_add_35 : decode b_Ma_add 35 = .ok (.putfield 18, 3) := by decide +kernel
theorem d_Ma_add_38 : decode b_Ma_add 38 = .ok (.return_, 1) := by decide +kernel
theorem d_MB_drop_0 : decode b_MB_drop 0 = .ok (.aload_n 0, 1) := by decide +kernel
theorem d_MB_drop_1 : decode b_MB_drop 1 = .ok (.getfield 26, 3) := by decide +kernel
theorem d_MB_drop_4 : decode b_MB_drop 4 = .ok (.invokevirtual 45, 3) := by decide +kernel
theorem d_MB_drop_7 : decode b_MB_drop 7 = .ok (.return_, 1) := by decide +kernel
theorem d_Ma_clear_0 : decode b_Ma_clear 0 = .ok (.aload_n 0, 1) := by decide +kernel
theorem d_Ma_clear_1 : decode b_Ma_clear 1 = .ok (.iconst 0, 1) := by decide +kernel
theorem d_Ma_clear_2 : decode b_Ma_clear 2 = .ok (.putfield 18, 3) := by decide +kernel
theorem d_Ma_clear_5 : decode b_Ma_clear 5 = .ok (.return_, 1) := by decide +kernel
theorem d_MB_rule_0 : decode b_MB_rule 0 = .ok (.iload_n 1, 1) := by decide +kernel
theorem d_MB_rule_1 : decode b_MB_rule 1 = .ok (.iload_n 2, 1) := by decide +kernel
theorem d_MB_rule_2 : decode b_MB_rule 2 = .ok (.invokestatic 48, 3) := by decide +kernel
theorem d_MB_rule_5 : decode b_MB_rule 5 = .ok (.ifCond .eq 14, 3) := by decide +kernel
theorem d_MB_rule_8 : decode b_MB_rule 8 = .ok (.aload_n 0, 1) := by decide +kernel
theorem d_MB_rule_9 : decode b_MB_rule 9 = .ok (.getfield 26, 3) := by decide +kernel
theorem d_MB_rule_12 : decode b_MB_rule 12 = .ok (.iload_n 2, 1) := by decide +kernel
theorem d_MB_rule_13 : decode b_MB_rule 13 = .ok (.invokevirtual 52, 3) := by decide +kernel
theorem d_MB_rule_16 : decode b_MB_rule 16 = .ok (.ifCond .ne 5, 3) := by decide +kernel
theorem d_MB_rule_19 : decode b_MB_rule 19 = .ok (.iconst (-1), 1) := by decide +kernel
theorem d_MB_rule_20 : decode b_MB_rule 20 = .ok (.ireturn, 1) := by decide +kernel
theorem d_MB_rule_21 : decode b_MB_rule 21 = .ok (.aload_n 0, 1) := by decide +kernel
theorem d_MB_rule_22 : decode b_MB_rule 22 = .ok (.getfield 10, 3) := by decide +kernel
theorem d_MB_rule_25 : decode b_MB_rule 25 = .ok (.invokevirtual 56, 3) := by decide +kernel
theorem d_MB_rule_28 : decode b_MB_rule 28 = .ok (.bipush 24, 2) := by decide +kernel
theorem d_MB_rule_30 : decode b_MB_rule 30 = .ok (.if_icmp .lt 6, 3) := by decide +kernel
theorem d_MB_rule_33 : decode b_MB_rule 33 = .ok (.bipush (-2), 2) := by decide +kernel
theorem d_MB_rule_35 : decode b_MB_rule 35 = .ok (.ireturn, 1) := by decide +kernel
theorem d_MB_rule_36 : decode b_MB_rule 36 = .ok (.aload_n 0, 1) := by decide +kernel
theorem d_MB_rule_37 : decode b_MB_rule 37 = .ok (.getfield 10, 3) := by decide +kernel
theorem d_MB_rule_40 : decode b_MB_rule 40 = .ok (.new 59, 3) := by decide +kernel
theorem d_MB_rule_43 : decode b_MB_rule 43 = .ok (.dup, 1) := by decide +kernel
theorem d_MB_rule_44 : decode b_MB_rule 44 = .ok (.iload_n 1, 1) := by decide +kernel
theorem d_MB_rule_45 : decode b_MB_rule 45 = .ok (.iload_n 2, 1) := by decide +kernel
theorem d_MB_rule_46 : decode b_MB_rule 46 = .ok (.aload_n 0, 1) := by decide +kernel
theorem d_MB_rule_47 : decode b_MB_rule 47 = .ok (.getfield 26, 3) := by decide +kernel
theorem d_MB_rule_50 : decode b_MB_rule 50 = .ok (.invokespecial 61, 3) := by decide +kernel
theorem d_MB_rule_53 : decode b_MB_rule 53 = .ok (.invokevirtual 64, 3) := by decide +kernel
theorem d_MB_rule_56 : decode b_MB_rule 56 = .ok (.pop, 1) := by decide +kernel
theorem d_MB_rule_57 : decode b_MB_rule 57 = .ok (.aload_n 0, 1) := by decide +kernel
theorem d_MB_rule_58 : decode b_MB_rule 58 = .ok (.new 23, 3) := by decide +kernel
theorem d_MB_rule_61 : decode b_MB_rule 61 = .ok (.dup, 1) := by decide +kernel
theorem d_MB_rule_62 : decode b_MB_rule 62 = .ok (.invokespecial 25, 3) := by decide +kernel
theorem d_MB_rule_65 : decode b_MB_rule 65 = .ok (.putfield 26, 3) := by decide +kernel
theorem d_MB_rule_68 : decode b_MB_rule 68 = .ok (.aload_n 0, 1) := by decide +kernel
theorem d_MB_rule_69 : decode b_MB_rule 69 = .ok (.getfield 10, 3) := by decide +kernel
theorem d_MB_rule_72 : decode b_MB_rule 72 = .ok (.invokevirtual 56, 3) := by decide +kernel
theorem d_MB_rule_75 : decode b_MB_rule 75 = .ok (.iconst 1, 1) := by decide +kernel
theorem d_MB_rule_76 : decode b_MB_rule 76 = .ok (.isub, 1) := by decide +kernel
theorem d_MB_rule_77 : decode b_MB_rule 77 = .ok (.ireturn, 1) := by decide +kernel
theorem d_MB_isMethod_0 : decode b_MB_isMethod 0 = .ok (.iload_n 0, 1) := by decide +kernel
theorem d_MB_isMethod_1 : decode b_MB_isMethod 1 = .ok (.invokestatic 87, 3) := by decide +kernel
theorem d_MB_isMethod_4 : decode b_MB_isMethod 4 = .ok (.ifCond .eq 17, 3) := by decide +kernel
theorem d_MB_isMethod_7 : decode b_MB_isMethod 7 = .ok (.iload_n 1, 1) := by decide +kernel
theorem d_MB_isMethod_8 : decode b_MB_isMethod 8 = .ok (.iconst 0, 1) := by decide +kernel
theorem d_MB_isMethod_9 : decode b_MB_isMethod 9 = .ok (.bipush 7, 2) := by decide +kernel
theorem d_MB_isMethod_11 : decode b_MB_isMethod 11 = .ok (.invokestatic 34, 3) := by decide +kernel
theorem d_MB_isMethod_14 : decode b_MB_isMethod 14 = .ok (.ifCond .eq 7, 3) := by decide +kernel
theorem d_MB_isMethod_17 : decode b_MB_isMethod 17 = .ok (.iconst 1, 1) := by decide +kernel
theorem d_MB_isMethod_18 : decode b_MB_isMethod 18 = .ok (.goto 4, 3) := by decide +kernel
theorem d_MB_isMethod_21 : decode b_MB_isMethod 21 = .ok (.iconst 0, 1) := by decide +kernel
theorem d_MB_isMethod_22 : decode b_MB_isMethod 22 = .ok (.ireturn, 1) := by decide +kernel
theorem d_MB_isMock_0 : decode b_MB_isMock 0 = .ok (.iload_n 0, 1) := by decide +kernel
theorem d_MB_isMock_1 : decode b_MB_isMock 1 = .ok (.iconst 0, 1) := by decide +kernel
theorem d_MB_isMock_2 : decode b_MB_isMock 2 = .ok (.iconst 3, 1) := by decide +kernel
theorem d_MB_isMock_3 : decode b_MB_isMock 3 = .ok (.invokestatic 34, 3) := by decide +kernel
theorem d_MB_isMock_6 : decode b_MB_isMock 6 = .ok (.ireturn, 1) := by decide +kernel
theorem d_Ma_suits_0 : decode b_Ma_suits 0 = .ok (.aload_n 0, 1) := by decide +kernel
theorem d_Ma_suits_1 : decode b_Ma_suits 1 = .ok (.getfield 18, 3) := by decide +kernel
theorem d_Ma_suits_4 : decode b_Ma_suits 4 = .ok (.iload_n 1, 1) := by decide +kernel
theorem d_Ma_suits_5 : decode b_Ma_suits 5 = .ok (.invokestatic 22, 3) := by decide +kernel
theorem d_Ma_suits_8 : decode b_Ma_suits 8 = .ok (.if_icmp .ne 7, 3) := by decide +kernel
theorem d_Ma_suits_11 : decode b_Ma_suits 11 = .ok (.iconst 1, 1) := by decide +kernel
theorem d_Ma_suits_12 : decode b_Ma_suits 12 = .ok (.goto 4, 3) := by decide +kernel
theorem d_Ma_suits_15 : decode b_Ma_suits 15 = .ok (.iconst 0, 1) := by decide +kernel
theorem d_Ma_suits_16 : decode b_Ma_suits 16 = .ok (.ireturn, 1) := by decide +kernel
theorem d_MB_argumentsOf_0 : decode b_MB_argumentsOf 0 = .ok (.iload_n 0, 1) := by decide +kernel
theorem d_MB_argumentsOf_1 : decode b_MB_argumentsOf 1 = .ok (.iconst 4, 1) := by decide +kernel
theorem d_MB_argumentsOf_2 : decode b_MB_argumentsOf 2 = .ok (.irem, 1) := by decide +kernel
theorem d_MB_argumentsOf_3 : decode b_MB_argumentsOf 3 = .ok (.ireturn, 1) := by decide +kernel
theorem d_Ru_init_0 : decode b_Ru_init 0 = .ok (.aload_n 0, 1) := by decide +kernel
theorem d_Ru_init_1 : decode b_Ru_init 1 = .ok (.invokespecial 3, 3) := by decide +kernel
theorem d_Ru_init_4 : decode b_Ru_init 4 = .ok (.aload_n 0, 1) := by decide +kernel
theorem d_Ru_init_5 : decode b_Ru_init 5 = .ok (.iconst 4, 1) := by decide +kernel
theorem d_Ru_init_6 : decode b_Ru_init 6 = .ok (.newarray .int, 2) := by decide +kernel
theorem d_Ru_init_8 : decode b_Ru_init 8 = .ok (.putfield 9, 3) := by decide +kernel
theorem d_Ru_init_11 : decode b_Ru_init 11 = .ok (.aload_n 0, 1) := by decide +kernel
theorem d_Ru_init_12 : decode b_Ru_init 12 = .ok (.iconst 4, 1) := by decide +kernel
theorem d_Ru_init_13 : decode b_Ru_init 13 = .ok (.newarray .int, 2) := by decide +kernel
theorem d_Ru_init_15 : decode b_Ru_init 15 = .ok (.putfield 15, 3) := by decide +kernel
theorem d_Ru_init_18 : decode b_Ru_init 18 = .ok (.aload_n 0, 1) := by decide +kernel
theorem d_Ru_init_19 : decode b_Ru_init 19 = .ok (.iconst 0, 1) := by decide +kernel
theorem d_Ru_init_20 : decode b_Ru_init 20 = .ok (.putfield 18, 3) := by decide +kernel
theorem d_Ru_init_23 : decode b_Ru_init 23 = .ok (.aload_n 0, 1) := by decide +kernel
theorem d_Ru_init_24 : decode b_Ru_init 24 = .ok (.iconst 0, 1) := by decide +kernel
theorem d_Ru_init_25 : decode b_Ru_init 25 = .ok (.putfield 22, 3) := by decide +kernel
theorem d_Ru_init_28 : decode b_Ru_init 28 = .ok (.aload_n 0, 1) := by decide +kernel
theorem d_Ru_init_29 : decode b_Ru_init 29 = .ok (.iconst 1, 1) := by decide +kernel
theorem d_Ru_init_30 : decode b_Ru_init 30 = .ok (.putfield 25, 3) := by decide +kernel
theorem d_Ru_init_33 : decode b_Ru_init 33 = .ok (.aload_n 0, 1) := by decide +kernel
theorem d_Ru_init_34 : decode b_Ru_init 34 = .ok (.iload_n 1, 1) := by decide +kernel
theorem d_Ru_init_35 : decode b_Ru_init 35 = .ok (.putfield 29, 3) := by decide +kernel
theorem d_Ru_init_38 : decode b_Ru_init 38 = .ok (.aload_n 0, 1) := by decide +kernel
theorem d_Ru_init_39 : decode b_Ru_init 39 = .ok (.iload_n 2, 1) := by decide +kernel
theorem d_Ru_init_40 : decode b_Ru_init 40 = .ok (.putfield 32, 3) := by decide +kernel
theorem d_Ru_init_43 : decode b_Ru_init 43 = .ok (.aload_n 0, 1) := by decide +kernel
theorem d_Ru_init_44 : decode b_Ru_init 44 = .ok (.aload_n 3, 1) := by decide +kernel
theorem d_Ru_init_45 : decode b_Ru_init 45 = .ok (.putfield 35, 3) := by decide +kernel
theorem d_Ru_init_48 : decode b_Ru_init 48 = .ok (.return_, 1) := by decide +kernel
theorem d_MB_then_0 : decode b_MB_then 0 = .ok (.aload_n 0, 1) := by decide +kernel
theorem d_MB_then_1 : decode b_MB_then 1 = .ok (.iload_n 1, 1) := by decide +kernel
theorem d_MB_then_2 : decode b_MB_then 2 = .ok (.invokevirtual 67, 3) := by decide +kernel
theorem d_MB_then_5 : decode b_MB_then 5 = .ok (.ifCond .ne 5, 3) := by decide +kernel
theorem d_MB_then_8 : decode b_MB_then 8 = .ok (.iconst (-1), 1) := by decide +kernel
theorem d_MB_then_9 : decode b_MB_then 9 = .ok (.ireturn, 1) := by decide +kernel
theorem d_MB_then_10 : decode b_MB_then 10 = .ok (.aload_n 0, 1) := by decide +kernel
theorem d_MB_then_11 : decode b_MB_then 11 = .ok (.getfield 10, 3) := by decide +kernel
theorem d_MB_then_14 : decode b_MB_then 14 = .ok (.iload_n 1, 1) := by decide +kernel
theorem d_MB_then_15 : decode b_MB_then 15 = .ok (.invokevirtual 70, 3) := by decide +kernel
theorem d_MB_then_18 : decode b_MB_then 18 = .ok (.checkcast 59, 3) := by decide +kernel
theorem d_MB_then_21 : decode b_MB_then 21 = .ok (.astore 4, 2) := by decide +kernel
theorem d_MB_then_23 : decode b_MB_then 23 = .ok (.aload 4, 2) := by decide +kernel
theorem d_MB_then_25 : decode b_MB_then 25 = .ok (.getfield 74, 3) := by decide +kernel
theorem d_MB_then_28 : decode b_MB_then 28 = .ok (.ifCond .eq 13, 3) := by decide +kernel
theorem d_MB_then_31 : decode b_MB_then 31 = .ok (.aload 4, 2) := by decide +kernel
theorem d_MB_then_33 : decode b_MB_then 33 = .ok (.iload_n 2, 1) := by decide +kernel
theorem d_MB_then_34 : decode b_MB_then 34 = .ok (.iload_n 3, 1) := by decide +kernel
theorem d_MB_then_35 : decode b_MB_then 35 = .ok (.invokevirtual 78, 3) := by decide +kernel
theorem d_MB_then_38 : decode b_MB_then 38 = .ok (.ifCond .ne 5, 3) := by decide +kernel
theorem d_MB_then_41 : decode b_MB_then 41 = .ok (.iconst (-1), 1) := by decide +kernel
theorem d_MB_then_42 : decode b_MB_then 42 = .ok (.ireturn, 1) := by decide +kernel
theorem d_MB_then_43 : decode b_MB_then 43 = .ok (.aload 4, 2) := by decide +kernel
theorem d_MB_then_45 : decode b_MB_then 45 = .ok (.getfield 81, 3) := by decide +kernel
theorem d_MB_then_48 : decode b_MB_then 48 = .ok (.iconst 4, 1) := by decide +kernel
theorem d_MB_then_49 : decode b_MB_then 49 = .ok (.if_icmp .lt 6, 3) := by decide +kernel
theorem d_MB_then_52 : decode b_MB_then 52 = .ok (.bipush (-2), 2) := by decide +kernel
theorem d_MB_then_54 : decode b_MB_then 54 = .ok (.ireturn, 1) := by decide +kernel
theorem d_MB_then_55 : decode b_MB_then 55 = .ok (.aload 4, 2) := by decide +kernel
theorem d_MB_then_57 : decode b_MB_then 57 = .ok (.iload_n 2, 1) := by decide +kernel
theorem d_MB_then_58 : decode b_MB_then 58 = .ok (.iload_n 3, 1) := by decide +kernel
theorem d_MB_then_59 : decode b_MB_then 59 = .ok (.invokevirtual 84, 3) := by decide +kernel
theorem d_MB_then_62 : decode b_MB_then 62 = .ok (.aload 4, 2) := by decide +kernel
theorem d_MB_then_64 : decode b_MB_then 64 = .ok (.getfield 81, 3) := by decide +kernel
theorem d_MB_then_67 : decode b_MB_then 67 = .ok (.ireturn, 1) := by decide +kernel
theorem d_MB_isRule_0 : decode b_MB_isRule 0 = .ok (.iload_n 1, 1) := by decide +kernel
theorem d_MB_isRule_1 : decode b_MB_isRule 1 = .ok (.iconst 0, 1) := by decide +kernel
theorem d_MB_isRule_2 : decode b_MB_isRule 2 = .ok (.aload_n 0, 1) := by decide +kernel
theorem d_MB_isRule_3 : decode b_MB_isRule 3 = .ok (.getfield 10, 3) := by decide +kernel
theorem d_MB_isRule_6 : decode b_MB_isRule 6 = .ok (.invokevirtual 56, 3) := by decide +kernel
theorem d_MB_isRule_9 : decode b_MB_isRule 9 = .ok (.iconst 1, 1) := by decide +kernel
theorem d_MB_isRule_10 : decode b_MB_isRule 10 = .ok (.isub, 1) := by decide +kernel
theorem d_MB_isRule_11 : decode b_MB_isRule 11 = .ok (.invokestatic 34, 3) := by decide +kernel
theorem d_MB_isRule_14 : decode b_MB_isRule 14 = .ok (.ireturn, 1) := by decide +kernel
theorem d_Ru_allows_0 : decode b_Ru_allows 0 = .ok (.iload_n 1, 1) := by decide +kernel
theorem d_Ru_allows_1 : decode b_Ru_allows 1 = .ok (.tableswitch 85 0 4 #[35, 37, 35, 35, 52], 35) := by decide +kernel
theorem d_Ru_allows_36 : decode b_Ru_allows 36 = .ok (.iconst 1, 1) := by decide +kernel
theorem d_Ru_allows_37 : decode b_Ru_allows 37 = .ok (.ireturn, 1) := by decide +kernel
theorem d_Ru_allows_38 : decode b_Ru_allows 38 = .ok (.iload_n 2, 1) := by decide +kernel
theorem d_Ru_allows_39 : decode b_Ru_allows 39 = .ok (.iconst 0, 1) := by decide +kernel
theorem d_Ru_allows_40 : decode b_Ru_allows 40 = .ok (.aload_n 0, 1) := by decide +kernel
theorem d_Ru_allows_41 : decode b_Ru_allows 41 = .ok (.getfield 32, 3) := by decide +kernel
theorem d_Ru_allows_44 : decode b_Ru_allows 44 = .ok (.invokestatic 49, 3) := by decide +kernel
theorem d_Ru_allows_47 : decode b_Ru_allows 47 = .ok (.iconst 1, 1) := by decide +kernel
theorem d_Ru_allows_48 : decode b_Ru_allows 48 = .ok (.isub, 1) := by decide +kernel
theorem d_Ru_allows_49 : decode b_Ru_allows 49 = .ok (.invokestatic 53, 3) := by decide +kernel
theorem d_Ru_allows_52 : decode b_Ru_allows 52 = .ok (.ireturn, 1) := by decide +kernel
theorem d_Ru_allows_53 : decode b_Ru_allows 53 = .ok (.iload_n 2, 1) := by decide +kernel
theorem d_Ru_allows_54 : decode b_Ru_allows 54 = .ok (.iconst 0, 1) := by decide +kernel
theorem d_Ru_allows_55 : decode b_Ru_allows 55 = .ok (.bipush 31, 2) := by decide +kernel
theorem d_Ru_allows_57 : decode b_Ru_allows 57 = .ok (.invokestatic 53, 3) := by decide +kernel
theorem d_Ru_allows_60 : decode b_Ru_allows 60 = .ok (.ifCond .eq 24, 3) := by decide +kernel
theorem d_Ru_allows_63 : decode b_Ru_allows 63 = .ok (.iload_n 2, 1) := by decide +kernel
theorem d_Ru_allows_64 : decode b_Ru_allows 64 = .ok (.bipush 8, 2) := by decide +kernel
theorem d_Ru_allows_66 : decode b_Ru_allows 66 = .ok (.irem, 1) := by decide +kernel
theorem d_Ru_allows_67 : decode b_Ru_allows 67 = .ok (.invokestatic 49, 3) := by decide +kernel
theorem d_Ru_allows_70 : decode b_Ru_allows 70 = .ok (.aload_n 0, 1) := by decide +kernel
theorem d_Ru_allows_71 : decode b_Ru_allows 71 = .ok (.getfield 32, 3) := by decide +kernel
theorem d_Ru_allows_74 : decode b_Ru_allows 74 = .ok (.invokestatic 49, 3) := by decide +kernel
theorem d_Ru_allows_77 : decode b_Ru_allows 77 = .ok (.if_icmp .gt 7, 3) := by decide +kernel
theorem d_Ru_allows_80 : decode b_Ru_allows 80 = .ok (.iconst 1, 1) := by decide +kernel
theorem d_Ru_allows_81 : decode b_Ru_allows 81 = .ok (.goto 4, 3) := by decide +kernel
theorem d_Ru_allows_84 : decode b_Ru_allows 84 = .ok (.iconst 0, 1) := by decide +kernel
theorem d_Ru_allows_85 : decode b_Ru_allows 85 = .ok (.ireturn, 1) := by decide +kernel
theorem d_Ru_allows_86 : decode b_Ru_allows 86 = .ok (.iconst 0, 1) := by decide +kernel
theorem d_Ru_allows_87 : decode b_Ru_allows 87 = .ok (.ireturn, 1) := by decide +kernel
theorem d_Ru_addAction_0 : decode b_Ru_addAction 0 = .ok (.aload_n 0, 1) := by decide +kernel
theorem d_Ru_addAction_1 : decode b_Ru_addAction 1 = .ok (.getfield 18, 3) := by decide +kernel
theorem d_Ru_addAction_4 : decode b_Ru_addAction 4 = .ok (.iconst 4, 1) := by decide +kernel
theorem d_Ru_addAction_5 : decode b_Ru_addAction 5 = .ok (.if_icmp .ge 33, 3) := by decide +kernel
theorem d_Ru_addAction_8 : decode b_Ru_addAction 8 = .ok (.aload_n 0, 1) := by decide +kernel
theorem d_Ru_addAction_9 : decode b_Ru_addAction 9 = .ok (.getfield 9, 3) := by decide +kernel
theorem d_Ru_addAction_12 : decode b_Ru_addAction 12 = .ok (.aload_n 0, 1) := by decide +kernel
theorem d_Ru_addAction_13 : decode b_Ru_addAction 13 = .ok (.getfield 18, 3) := by decide +kernel
theorem d_Ru_addAction_16 : decode b_Ru_addAction 16 = .ok (.iload_n 1, 1) := by decide +kernel
theorem d_Ru_addAction_17 : decode b_Ru_addAction 17 = .ok (.iastore, 1) := by decide +kernel
theorem d_Ru_addAction_18 : decode b_Ru_addAction 18 = .ok (.aload_n 0, 1) := by decide +kernel
theorem d_Ru_addAction_19 : decode b_Ru_addAction 19 = .ok (.getfield 15, 3) := by decide +kernel
theorem d_Ru_addAction_22 : decode b_Ru_addAction 22 = .ok (.aload_n 0, 1) := by decide +kernel
theorem d_Ru_addAction_23 : decode b_Ru_addAction 23 = .ok (.getfield 18, 3) := by decide +kernel
theorem d_Ru_addAction_26 : decode b_Ru_addAction 26 = .ok (.iload_n 2, 1) := by decide +kernel
theorem d_Ru_addAction_27 : decode b_Ru_addAction 27 = .ok (.iastore, 1) := by decide +kernel
theorem d_Ru_addAction_28 : decode b_Ru_addAction 28 = .ok (.aload_n 0, 1) := by decide +kernel
theorem d_Ru_addAction_29 : decode b_Ru_addAction 29 = .ok (.dup, 1) := by decide +kernel
theorem d_Ru_addAction_30 : decode b_Ru_addAction 30 = .ok (.getfield 18, 3) := by decide +kernel
theorem d_Ru_addAction_33 : decode b_Ru_addAction 33 = .ok (.iconst 1, 1) := by decide +kernel
theorem d_Ru_addAction_34 : decode b_Ru_addAction 34 = .ok (.iadd, 1) := by decide +kernel
theorem d_Ru_addAction_35 : decode b_Ru_addAction 35 = .ok (.putfield 18, 3) := by decide +kernel
theorem d_Ru_addAction_38 : decode b_Ru_addAction 38 = .ok (.return_, 1) := by decide +kernel
theorem d_MB_strict_0 : decode b_MB_strict 0 = .ok (.iload_n 1, 1) := by decide +kernel
theorem d_MB_strict_1 : decode b_MB_strict 1 = .ok (.invokestatic 87, 3) := by decide +kernel
theorem d_MB_strict_4 : decode b_MB_strict 4 = .ok (.ifCond .ne 5, 3) := by decide +kernel
theorem d_MB_strict_7 : decode b_MB_strict 7 = .ok (.iconst (-1), 1) := by decide +kernel
theorem d_MB_strict_8 : decode b_MB_strict 8 = .ok (.ireturn, 1) := by decide +kernel
theorem d_MB_strict_9 : decode b_MB_strict 9 = .ok (.aload_n 0, 1) := by decide +kernel
theorem d_MB_strict_10 : decode b_MB_strict 10 = .ok (.getfield 19, 3) := by decide +kernel
theorem d_MB_strict_13 : decode b_MB_strict 13 = .ok (.iload_n 1, 1) := by decide +kernel
theorem d_MB_strict_14 : decode b_MB_strict 14 = .ok (.baload, 1) := by decide +kernel
theorem d_MB_strict_15 : decode b_MB_strict 15 = .ok (.istore_n 3, 1) := by decide +kernel
theorem d_MB_strict_16 : decode b_MB_strict 16 = .ok (.aload_n 0, 1) := by decide +kernel
theorem d_MB_strict_17 : decode b_MB_strict 17 = .ok (.getfield 19, 3) := by decide +kernel
theorem d_MB_strict_20 : decode b_MB_strict 20 = .ok (.iload_n 1, 1) := by decide +kernel
theorem d_MB_strict_21 : decode b_MB_strict 21 = .ok (.iload_n 2, 1) := by decide +kernel
theorem d_MB_strict_22 : decode b_MB_strict 22 = .ok (.bastore, 1) := by decide +kernel
theorem d_MB_strict_23 : decode b_MB_strict 23 = .ok (.iload_n 3, 1) := by decide +kernel
theorem d_MB_strict_24 : decode b_MB_strict 24 = .ok (.invokestatic 90, 3) := by decide +kernel
theorem d_MB_strict_27 : decode b_MB_strict 27 = .ok (.ireturn, 1) := by decide +kernel
theorem d_MB_asNumber_0 : decode b_MB_asNumber 0 = .ok (.iload_n 0, 1) := by decide +kernel
theorem d_MB_asNumber_1 : decode b_MB_asNumber 1 = .ok (.ifCond .eq 7, 3) := by decide +kernel
theorem d_MB_asNumber_4 : decode b_MB_asNumber 4 = .ok (.iconst 1, 1) := by decide +kernel
theorem d_MB_asNumber_5 : decode b_MB_asNumber 5 = .ok (.goto 4, 3) := by decide +kernel
theorem d_MB_asNumber_8 : decode b_MB_asNumber 8 = .ok (.iconst 0, 1) := by decide +kernel
theorem d_MB_asNumber_9 : decode b_MB_asNumber 9 = .ok (.ireturn, 1) := by decide +kernel
theorem d_MB_call_0 : decode b_MB_call 0 = .ok (.iload_n 1, 1) := by decide +kernel
theorem d_MB_call_1 : decode b_MB_call 1 = .ok (.iload_n 2, 1) := by decide +kernel
theorem d_MB_call_2 : decode b_MB_call 2 = .ok (.invokestatic 48, 3) := by decide +kernel
theorem d_MB_call_5 : decode b_MB_call 5 = .ok (.ifCond .eq 16, 3) := by decide +kernel
theorem d_MB_call_8 : decode b_MB_call 8 = .ok (.aload_n 0, 1) := by decide +kernel
theorem d_MB_call_9 : decode b_MB_call 9 = .ok (.getfield 16, 3) := by decide +kernel
theorem d_MB_call_12 : decode b_MB_call 12 = .ok (.invokevirtual 56, 3) := by decide +kernel
theorem d_MB_call_15 : decode b_MB_call 15 = .ok (.sipush 160, 3) := by decide +kernel
theorem d_MB_call_18 : decode b_MB_call 18 = .ok (.if_icmp .lt 7, 3) := by decide +kernel
theorem d_MB_call_21 : decode b_MB_call 21 = .ok (.ldc2_w 94, 3) := by decide +kernel
theorem d_MB_call_24 : decode b_MB_call 24 = .ok (.lreturn, 1) := by decide +kernel
theorem d_MB_call_25 : decode b_MB_call 25 = .ok (.aload_n 0, 1) := by decide +kernel
theorem d_MB_call_26 : decode b_MB_call 26 = .ok (.iload_n 1, 1) := by decide +kernel
theorem d_MB_call_27 : decode b_MB_call 27 = .ok (.iload_n 2, 1) := by decide +kernel
theorem d_MB_call_28 : decode b_MB_call 28 = .ok (.iload_n 3, 1) := by decide +kernel
theorem d_MB_call_29 : decode b_MB_call 29 = .ok (.iload 4, 2) := by decide +kernel
theorem d_MB_call_31 : decode b_MB_call 31 = .ok (.iload 5, 2) := by decide +kernel
theorem d_MB_call_33 : decode b_MB_call 33 = .ok (.iconst 0, 1) := by decide +kernel
theorem d_MB_call_34 : decode b_MB_call 34 = .ok (.iconst (-1), 1) := by decide +kernel
theorem d_MB_call_35 : decode b_MB_call 35 = .ok (.invokevirtual 96, 3) := by decide +kernel
theorem d_MB_call_38 : decode b_MB_call 38 = .ok (.lreturn, 1) := by decide +kernel
theorem d_MB_noteAndRespond_0 : decode b_MB_noteAndRespond 0 = .ok (.iload 6, 2) := by decide +kernel
theorem d_MB_noteAndRespond_2 : decode b_MB_noteAndRespond 2 = .ok (.iconst 3, 1) := by decide +kernel
theorem d_MB_noteAndRespond_3 : decode b_MB_noteAndRespond 3 = .ok (.if_icmp .gt 16, 3) := by decide +kernel
theorem d_MB_noteAndRespond_6 : decode b_MB_noteAndRespond 6 = .ok (.aload_n 0, 1) := by decide +kernel
theorem d_MB_noteAndRespond_7 : decode b_MB_noteAndRespond 7 = .ok (.getfield 16, 3) := by decide +kernel
theorem d_MB_noteAndRespond_10 : decode b_MB_noteAndRespond 10 = .ok (.invokevirtual 56, 3) := by decide +kernel
theorem d_MB_noteAndRespond_13 : decode b_MB_noteAndRespond 13 = .ok (.sipush 160, 3) := by decide +kernel
theorem d_MB_noteAndRespond_16 : decode b_MB_noteAndRespond 16 = .ok (.if_icmp .lt 7, 3) := by decide +kernel
theorem d_MB_noteAndRespond_19 : decode b_MB_noteAndRespond 19 = .ok (.ldc2_w 167, 3) := by decide +kernel
theorem d_MB_noteAndRespond_22 : decode b_MB_noteAndRespond 22 = .ok (.lreturn, 1) := by decide +kernel
theorem d_MB_noteAndRespond_23 : decode b_MB_noteAndRespond 23 = .ok (.aload_n 0, 1) := by decide +kernel
theorem d_MB_noteAndRespond_24 : decode b_MB_noteAndRespond 24 = .ok (.getfield 16, 3) := by decide +kernel
theorem d_MB_noteAndRespond_27 : decode b_MB_noteAndRespond 27 = .ok (.invokevirtual 56, 3) := by decide +kernel
theorem d_MB_noteAndRespond_30 : decode b_MB_noteAndRespond 30 = .ok (.istore 8, 2) := by decide +kernel
theorem d_MB_noteAndRespond_32 : decode b_MB_noteAndRespond 32 = .ok (.new 113, 3) := by decide +kernel
theorem d_MB_noteAndRespond_35 : decode b_MB_noteAndRespond 35 = .ok (.dup, 1) := by decide +kernel
theorem d_MB_noteAndRespond_36 : decode b_MB_noteAndRespond 36 = .ok (.iload_n 1, 1) := by decide +kernel
theorem d_MB_noteAndRespond_37 : decode b_MB_noteAndRespond 37 = .ok (.iload_n 2, 1) := by decide +kernel
theorem d_MB_noteAndRespond_38 : decode b_MB_noteAndRespond 38 = .ok (.iload_n 3, 1) := by decide +kernel
theorem d_MB_noteAndRespond_39 : decode b_MB_noteAndRespond 39 = .ok (.iload 4, 2) := by decide +kernel
theorem d_MB_noteAndRespond_41 : decode b_MB_noteAndRespond 41 = .ok (.iload 5, 2) := by decide +kernel
theorem d_MB_noteAndRespond_43 : decode b_MB_noteAndRespond 43 = .ok (.iload 6, 2) := by decide +kernel
theorem d_MB_noteAndRespond_45 : decode b_MB_noteAndRespond 45 = .ok (.iload 7, 2) := by decide +kernel
theorem d_MB_noteAndRespond_47 : decode b_MB_noteAndRespond 47 = .ok (.invokespecial 169, 3) := by decide +kernel
theorem d_MB_noteAndRespond_50 : decode b_MB_noteAndRespond 50 = .ok (.astore 9, 2) := by decide +kernel
theorem d_MB_noteAndRespond_52 : decode b_MB_noteAndRespond 52 = .ok (.aload_n 0, 1) := by decide +kernel
theorem d_MB_noteAndRespond_53 : decode b_MB_noteAndRespond 53 = .ok (.getfield 16, 3) := by decide +kernel
theorem d_MB_noteAndRespond_56 : decode b_MB_noteAndRespond 56 = .ok (.aload 9, 2) := by decide +kernel
theorem d_MB_noteAndRespond_58 : decode b_MB_noteAndRespond 58 = .ok (.invokevirtual 64, 3) := by decide +kernel
theorem d_MB_noteAndRespond_61 : decode b_MB_noteAndRespond 61 = .ok (.pop, 1) := by decide +kernel
theorem d_MB_noteAndRespond_62 : decode b_MB_noteAndRespond 62 = .ok (.aload 9, 2) := by decide +kernel
theorem d_MB_noteAndRespond_64 : decode b_MB_noteAndRespond 64 = .ok (.aload_n 0, 1) := by decide +kernel
theorem d_MB_noteAndRespond_65 : decode b_MB_noteAndRespond 65 = .ok (.aload 9, 2) := by decide +kernel
theorem d_MB_noteAndRespond_67 : decode b_MB_noteAndRespond 67 = .ok (.invokevirtual 172, 3) := by decide +kernel
theorem d_MB_noteAndRespond_70 : decode b_MB_noteAndRespond 70 = .ok (.putfield 154, 3) := by decide +kernel
theorem d_MB_noteAndRespond_73 : decode b_MB_noteAndRespond 73 = .ok (.aload 9, 2) := by decide +kernel
theorem d_MB_noteAndRespond_75 : decode b_MB_noteAndRespond 75 = .ok (.aload_n 0, 1) := by decide +kernel
theorem d_MB_noteAndRespond_76 : decode b_MB_noteAndRespond 76 = .ok (.aload 9, 2) := by decide +kernel
theorem d_MB_noteAndRespond_78 : decode b_MB_noteAndRespond 78 = .ok (.iload 8, 2) := by decide +kernel
theorem d_MB_noteAndRespond_80 : decode b_MB_noteAndRespond 80 = .ok (.iload 6, 2) := by decide +kernel
theorem d_MB_noteAndRespond_82 : decode b_MB_noteAndRespond 82 = .ok (.invokevirtual 176, 3) := by decide +kernel
theorem d_MB_noteAndRespond_85 : decode b_MB_noteAndRespond 85 = .ok (.putfield 157, 3) := by decide +kernel
theorem d_MB_noteAndRespond_88 : decode b_MB_noteAndRespond 88 = .ok (.aload 9, 2) := by decide +kernel
theorem d_MB_noteAndRespond_90 : decode b_MB_noteAndRespond 90 = .ok (.getfield 157, 3) := by decide +kernel
theorem d_MB_noteAndRespond_93 : decode b_MB_noteAndRespond 93 = .ok (.lreturn, 1) := by decide +kernel
theorem d_In_init_0 : decode b_In_init 0 = .ok (.aload_n 0, 1) := by decide +kernel
theorem d_In_init_1 : decode b_In_init 1 = .ok (.invokespecial 3, 3) := by decide +kernel
theorem d_In_init_4 : decode b_In_init 4 = .ok (.aload_n 0, 1) := by decide +kernel
theorem d_In_init_5 : decode b_In_init 5 = .ok (.iconst (-1), 1) := by decide +kernel
theorem d_In_init_6 : decode b_In_init 6 = .ok (.putfield 9, 3) := by decide +kernel
theorem d_In_init_9 : decode b_In_init 9 = .ok (.aload_n 0, 1) := by decide +kernel
theorem d_In_init_10 : decode b_In_init 10 = .ok (.ldc2_w 15, 3) := by decide +kernel
theorem d_In_init_13 : decode b_In_init 13 = .ok (.putfield 17, 3) := by decide +kernel
theorem d_In_init_16 : decode b_In_init 16 = .ok (.aload_n 0, 1) := by decide +kernel
theorem d_In_init_17 : decode b_In_init 17 = .ok (.iconst 0, 1) := by decide +kernel
theorem d_In_init_18 : decode b_In_init 18 = .ok (.putfield 21, 3) := by decide +kernel
theorem d_In_init_21 : decode b_In_init 21 = .ok (.aload_n 0, 1) := by decide +kernel
theorem d_In_init_22 : decode b_In_init 22 = .ok (.iconst 1, 1) := by decide +kernel
theorem d_In_init_23 : decode b_In_init 23 = .ok (.putfield 25, 3) := by decide +kernel
theorem d_In_init_26 : decode b_In_init 26 = .ok (.iload_n 2, 1) := by decide +kernel
theorem d_In_init_27 : decode b_In_init 27 = .ok (.invokestatic 28, 3) := by decide +kernel
theorem d_In_init_30 : decode b_In_init 30 = .ok (.istore 8, 2) := by decide +kernel
theorem d_In_init_32 : decode b_In_init 32 = .ok (.aload_n 0, 1) := by decide +kernel
theorem d_In_init_33 : decode b_In_init 33 = .ok (.iload_n 1, 1) := by decide +kernel
theorem d_In_init_34 : decode b_In_init 34 = .ok (.putfield 32, 3) := by decide +kernel
theorem d_In_init_37 : decode b_In_init 37 = .ok (.aload_n 0, 1) := by decide +kernel
theorem d_In_init_38 : decode b_In_init 38 = .ok (.iload_n 2, 1) := by decide +kernel
theorem d_In_init_39 : decode b_In_init 39 = .ok (.putfield 35, 3) := by decide +kernel
theorem d_In_init_42 : decode b_In_init 42 = .ok (.aload_n 0, 1) := by decide +kernel
theorem d_In_init_43 : decode b_In_init 43 = .ok (.iload 8, 2) := by decide +kernel
theorem d_In_init_45 : decode b_In_init 45 = .ok (.ifCond .le 7, 3) := by decide +kernel
theorem d_In_init_48 : decode b_In_init 48 = .ok (.iload_n 3, 1) := by decide +kernel
theorem d_In_init_49 : decode b_In_init 49 = .ok (.goto 4, 3) := by decide +kernel
theorem d_In_init_52 : decode b_In_init 52 = .ok (.iconst 0, 1) := by decide +kernel
theorem d_In_init_53 : decode b_In_init 53 = .ok (.putfield 38, 3) := by decide +kernel
theorem d_In_init_56 : decode b_In_init 56 = .ok (.aload_n 0, 1) := by decide +kernel
theorem d_In_init_57 : decode b_In_init 57 = .ok (.iload 8, 2) := by decide +kernel
theorem d_In_init_59 : decode b_In_init 59 = .ok (.iconst 1, 1) := by decide +kernel
theorem d_In_init_60 : decode b_In_init 60 = .ok (.if_icmp .le 8, 3) := by decide +kernel
theorem d_In_init_63 : decode b_In_init 63 = .ok (.iload 4, 2) := by decide +kernel
theorem d_In_init_65 : decode b_In_init 65 = .ok (.goto 4, 3) := by decide +kernel
theorem d_In_init_68 : decode b_In_init 68 = .ok (.iconst 0, 1) := by decide +kernel
theorem d_In_init_69 : decode b_In_init 69 = .ok (.putfield 41, 3) := by decide +kernel
theorem d_In_init_72 : decode b_In_init 72 = .ok (.aload_n 0, 1) := by decide +kernel
theorem d_In_init_73 : decode b_In_init 73 = .ok (.iload 8, 2) := by decide +kernel
theorem d_In_init_75 : decode b_In_init 75 = .ok (.iconst 2, 1) := by decide +kernel
theorem d_In_init_76 : decode b_In_init 76 = .ok (.if_icmp .le 8, 3) := by decide +kernel
theorem d_In_init_79 : decode b_In_init 79 = .ok (.iload 5, 2) := by decide +kernel
theorem d_In_init_81 : decode b_In_init 81 = .ok (.goto 4, 3) := by decide +kernel
theorem d_In_init_84 : decode b_In_init 84 = .ok (.iconst 0, 1) := by decide +kernel
theorem d_In_init_85 : decode b_In_init 85 = .ok (.putfield 44, 3) := by decide +kernel
theorem d_In_init_88 : decode b_In_init 88 = .ok (.aload_n 0, 1) := by decide +kernel
theorem d_In_init_89 : decode b_In_init 89 = .ok (.iload 6, 2) := by decide +kernel
theorem d_In_init_91 : decode b_In_init 91 = .ok (.putfield 47, 3) := by decide +kernel
theorem d_In_init_94 : decode b_In_init 94 = .ok (.aload_n 0, 1) := by decide +kernel
theorem d_In_init_95 : decode b_In_init 95 = .ok (.iload 7, 2) := by decide +kernel
theorem d_In_init_97 : decode b_In_init 97 = .ok (.putfield 50, 3) := by decide +kernel
theorem d_In_init_100 : decode b_In_init 100 = .ok (.return_, 1) := by decide +kernel
theorem d_MB_ruleNumberFor_0 : decode b_MB_ruleNumberFor 0 = .ok (.aload_n 0, 1) := by decide +kernel
theorem d_MB_ruleNumberFor_1 : decode b_MB_ruleNumberFor 1 = .ok (.getfield 10, 3) := by decide +kernel
theorem d_MB_ruleNumberFor_4 : decode b_MB_ruleNumberFor 4 = .ok (.invokevirtual 56, 3) := by decide +kernel
theorem d_MB_ruleNumberFor_7 : decode b_MB_ruleNumberFor 7 = .ok (.iconst 1, 1) := by decide +kernel
theorem d_MB_ruleNumberFor_8 : decode b_MB_ruleNumberFor 8 = .ok (.isub, 1) := by decide +kernel
theorem d_MB_ruleNumberFor_9 : decode b_MB_ruleNumberFor 9 = .ok (.istore_n 2, 1) := by decide +kernel
theorem d_MB_ruleNumberFor_10 : decode b_MB_ruleNumberFor 10 = .ok (.iload_n 2, 1) := by decide +kernel
theorem d_MB_ruleNumberFor_11 : decode b_MB_ruleNumberFor 11 = .ok (.ifCond .lt 29, 3) := by decide +kernel
theorem d_MB_ruleNumberFor_14 : decode b_MB_ruleNumberFor 14 = .ok (.aload_n 0, 1) := by decide +kernel
theorem d_MB_ruleNumberFor_15 : decode b_MB_ruleNumberFor 15 = .ok (.getfield 10, 3) := by decide +kernel
theorem d_MB_ruleNumberFor_18 : decode b_MB_ruleNumberFor 18 = .ok (.iload_n 2, 1) := by decide +kernel
theorem d_MB_ruleNumberFor_19 : decode b_MB_ruleNumberFor 19 = .ok (.invokevirtual 70, 3) := by decide +kernel
theorem d_MB_ruleNumberFor_22 : decode b_MB_ruleNumberFor 22 = .ok (.checkcast 59, 3) := by decide +kernel
theorem d_MB_ruleNumberFor_25 : decode b_MB_ruleNumberFor 25 = .ok (.aload_n 1, 1) := by decide +kernel
theorem d_MB_ruleNumberFor_26 : decode b_MB_ruleNumberFor 26 = .ok (.invokevirtual 201, 3) := by decide +kernel
theorem d_MB_ruleNumberFor_29 : decode b_MB_ruleNumberFor 29 = .ok (.ifCond .eq 5, 3) := by decide +kernel
theorem d_MB_ruleNumberFor_32 : decode b_MB_ruleNumberFor 32 = .ok (.iload_n 2, 1) := by decide +kernel
theorem d_MB_ruleNumberFor_33 : decode b_MB_ruleNumberFor 33 = .ok (.ireturn, 1) := by decide +kernel
theorem d_MB_ruleNumberFor_34 : decode b_MB_ruleNumberFor 34 = .ok (.iinc 2 (-1), 3) := by decide +kernel
theorem d_MB_ruleNumberFor_37 : decode b_MB_ruleNumberFor 37 = .ok (.goto (-27), 3) := by decide +kernel
theorem d_MB_ruleNumberFor_40 : decode b_MB_ruleNumberFor 40 = .ok (.iconst (-1), 1) := by decide +kernel
theorem d_MB_ruleNumberFor_41 : decode b_MB_ruleNumberFor 41 = .ok (.ireturn, 1) := by decide +kernel
theorem d_Ru_answersTo_0 : decode b_Ru_answersTo 0 = .ok (.aload_n 0, 1) := by decide +kernel
theorem d_Ru_answersTo_1 : decode b_Ru_answersTo 1 = .ok (.getfield 25, 3) := by decide +kernel
theorem d_Ru_answersTo_4 : decode b_Ru_answersTo 4 = .ok (.ifCond .eq 40, 3) := by decide +kernel
theorem d_Ru_answersTo_7 : decode b_Ru_answersTo 7 = .ok (.aload_n 0, 1) := by decide +kernel
theorem d_Ru_answersTo_8 : decode b_Ru_answersTo 8 = .ok (.getfield 29, 3) := by decide +kernel
theorem d_Ru_answersTo_11 : decode b_Ru_answersTo 11 = .ok (.aload_n 1, 1) := by decide +kernel
theorem d_Ru_answersTo_12 : decode b_Ru_answersTo 12 = .ok (.getfield 39, 3) := by decide +kernel
theorem d_Ru_answersTo_15 : decode b_Ru_answersTo 15 = .ok (.if_icmp .ne 29, 3) := by decide +kernel
theorem d_Ru_answersTo_18 : decode b_Ru_answersTo 18 = .ok (.aload_n 0, 1) := by decide +kernel
theorem d_Ru_answersTo_19 : decode b_Ru_answersTo 19 = .ok (.getfield 32, 3) := by decide +kernel
theorem d_Ru_answersTo_22 : decode b_Ru_answersTo 22 = .ok (.aload_n 1, 1) := by decide +kernel
theorem d_Ru_answersTo_23 : decode b_Ru_answersTo 23 = .ok (.getfield 42, 3) := by decide +kernel
theorem d_Ru_answersTo_26 : decode b_Ru_answersTo 26 = .ok (.if_icmp .ne 18, 3) := by decide +kernel
theorem d_Ru_answersTo_29 : decode b_Ru_answersTo 29 = .ok (.aload_n 0, 1) := by decide +kernel
theorem d_Ru_answersTo_30 : decode b_Ru_answersTo 30 = .ok (.getfield 35, 3) := by decide +kernel
theorem d_Ru_answersTo_33 : decode b_Ru_answersTo 33 = .ok (.aload_n 1, 1) := by decide +kernel
theorem d_Ru_answersTo_34 : decode b_Ru_answersTo 34 = .ok (.invokevirtual 43, 3) := by decide +kernel
theorem d_Ru_answersTo_37 : decode b_Ru_answersTo 37 = .ok (.ifCond .eq 7, 3) := by decide +kernel
theorem d_Ru_answersTo_40 : decode b_Ru_answersTo 40 = .ok (.iconst 1, 1) := by decide +kernel
theorem d_Ru_answersTo_41 : decode b_Ru_answersTo 41 = .ok (.goto 4, 3) := by decide +kernel
theorem d_Ru_answersTo_44 : decode b_Ru_answersTo 44 = .ok (.iconst 0, 1) := by decide +kernel
theorem d_Ru_answersTo_45 : decode b_Ru_answersTo 45 = .ok (.ireturn, 1) := by decide +kernel
theorem d_Ma_fit_0 : decode b_Ma_fit 0 = .ok (.iconst 0, 1) := by decide +kernel
theorem d_Ma_fit_1 : decode b_Ma_fit 1 = .ok (.istore_n 2, 1) := by decide +kernel
theorem d_Ma_fit_2 : decode b_Ma_fit 2 = .ok (.iload_n 2, 1) := by decide +kernel
theorem d_Ma_fit_3 : decode b_Ma_fit 3 = .ok (.aload_n 0, 1) := by decide +kernel
theorem d_Ma_fit_4 : decode b_Ma_fit 4 = .ok (.getfield 18, 3) := by decide +kernel
theorem d_Ma_fit_7 : decode b_Ma_fit 7 = .ok (.if_icmp .ge 34, 3) := by decide +kernel
theorem d_Ma_fit_10 : decode b_Ma_fit 10 = .ok (.aload_n 0, 1) := by decide +kernel
theorem d_Ma_fit_11 : decode b_Ma_fit 11 = .ok (.getfield 9, 3) := by decide +kernel
theorem d_Ma_fit_14 : decode b_Ma_fit 14 = .ok (.iload_n 2, 1) := by decide +kernel
theorem d_Ma_fit_15 : decode b_Ma_fit 15 = .ok (.iaload, 1) := by decide +kernel
theorem d_Ma_fit_16 : decode b_Ma_fit 16 = .ok (.aload_n 0, 1) := by decide +kernel
theorem d_Ma_fit_17 : decode b_Ma_fit 17 = .ok (.getfield 15, 3) := by decide +kernel
theorem d_Ma_fit_20 : decode b_Ma_fit 20 = .ok (.iload_n 2, 1) := by decide +kernel
theorem d_Ma_fit_21 : decode b_Ma_fit 21 = .ok (.iaload, 1) := by decide +kernel
theorem d_Ma_fit_22 : decode b_Ma_fit 22 = .ok (.aload_n 1, 1) := by decide +kernel
theorem d_Ma_fit_23 : decode b_Ma_fit 23 = .ok (.iload_n 2, 1) := by decide +kernel
theorem d_Ma_fit_24 : decode b_Ma_fit 24 = .ok (.invokevirtual 26, 3) := by decide +kernel
theorem d_Ma_fit_27 : decode b_Ma_fit 27 = .ok (.invokestatic 31, 3) := by decide +kernel
theorem d_Ma_fit_30 : decode b_Ma_fit 30 = .ok (.ifCond .ne 5, 3) := by decide +kernel
theorem d_Ma_fit_33 : decode b_Ma_fit 33 = .ok (.iconst 0, 1) := by decide +kernel
theorem d_Ma_fit_34 : decode b_Ma_fit 34 = .ok (.ireturn, 1) := by decide +kernel
theorem d_Ma_fit_35 : decode b_Ma_fit 35 = .ok (.iinc 2 1, 3) := by decide +kernel
theorem d_Ma_fit_38 : decode b_Ma_fit 38 = .ok (.goto (-36), 3) := by decide +kernel
theorem d_Ma_fit_41 : decode b_Ma_fit 41 = .ok (.iconst 1, 1) := by decide +kernel
theorem d_Ma_fit_42 : decode b_Ma_fit 42 = .ok (.ireturn, 1) := by decide +kernel
theorem d_In_argument_0 : decode b_In_argument 0 = .ok (.iload_n 1, 1) := by decide +kernel
theorem d_In_argument_1 : decode b_In_argument 1 = .ok (.lookupswitch 37 #[(0, 27), (1, 32)], 27) := by decide +kernel
theorem d_In_argument_28 : decode b_In_argument 28 = .ok (.aload_n 0, 1) := by decide +kernel
theorem d_In_argument_29 : decode b_In_argument 29 = .ok (.getfield 38, 3) := by decide +kernel
theorem d_In_argument_32 : decode b_In_argument 32 = .ok (.ireturn, 1) := by decide +kernel
theorem d_In_argument_33 : decode b_In_argument 33 = .ok (.aload_n 0, 1) := by decide +kernel
theorem d_In_argument_34 : decode b_In_argument 34 = .ok (.getfield 41, 3) := by decide +kernel
theorem d_In_argument_37 : decode b_In_argument 37 = .ok (.ireturn, 1) := by decide +kernel
theorem d_In_argument_38 : decode b_In_argument 38 = .ok (.aload_n 0, 1) := by decide +kernel
theorem d_In_argument_39 : decode b_In_argument 39 = .ok (.getfield 44, 3) := by decide +kernel
theorem d_In_argument_42 : decode b_In_argument 42 = .ok (.ireturn, 1) := by decide +kernel
theorem d_Ma_fitsOne_0 : decode b_Ma_fitsOne 0 = .ok (.iload_n 0, 1) := by decide +kernel
theorem d_Ma_fitsOne_1 : decode b_Ma_fitsOne 1 = .ok (.tableswitch 98 1 5 #[35, 46, 57, 68, 79], 35) := by decide +kernel
theorem d_Ma_fitsOne_36 : decode b_Ma_fitsOne 36 = .ok (.iload_n 2, 1) := by decide +kernel
theorem d_Ma_fitsOne_37 : decode b_Ma_fitsOne 37 = .ok (.iload_n 1, 1) := by decide +kernel
theorem d_Ma_fitsOne_38 : decode b_Ma_fitsOne 38 = .ok (.if_icmp .ne 7, 3) := by decide +kernel
theorem d_Ma_fitsOne_41 : decode b_Ma_fitsOne 41 = .ok (.iconst 1, 1) := by decide +kernel
theorem d_Ma_fitsOne_42 : decode b_Ma_fitsOne 42 = .ok (.goto 4, 3) := by decide +kernel
theorem d_Ma_fitsOne_45 : decode b_Ma_fitsOne 45 = .ok (.iconst 0, 1) := by decide +kernel
theorem d_Ma_fitsOne_46 : decode b_Ma_fitsOne 46 = .ok (.ireturn, 1) := by decide +kernel
theorem d_Ma_fitsOne_47 : decode b_Ma_fitsOne 47 = .ok (.iload_n 2, 1) := by decide +kernel
theorem d_Ma_fitsOne_48 : decode b_Ma_fitsOne 48 = .ok (.iload_n 1, 1) := by decide +kernel
theorem d_Ma_fitsOne_49 : decode b_Ma_fitsOne 49 = .ok (.if_icmp .eq 7, 3) := by decide +kernel
theorem d_Ma_fitsOne_52 : decode b_Ma_fitsOne 52 = .ok (.iconst 1, 1) := by decide +kernel
theorem d_Ma_fitsOne_53 : decode b_Ma_fitsOne 53 = .ok (.goto 4, 3) := by decide +kernel
theorem d_Ma_fitsOne_56 : decode b_Ma_fitsOne 56 = .ok (.iconst 0, 1) := by decide +kernel
theorem d_Ma_fitsOne_57 : decode b_Ma_fitsOne 57 = .ok (.ireturn, 1) := by decide +kernel
theorem d_Ma_fitsOne_58 : decode b_Ma_fitsOne 58 = .ok (.iload_n 2, 1) := by decide +kernel
theorem d_Ma_fitsOne_59 : decode b_Ma_fitsOne 59 = .ok (.iload_n 1, 1) := by decide +kernel
theorem d_Ma_fitsOne_60 : decode b_Ma_fitsOne 60 = .ok (.if_icmp .ge 7, 3) := by decide +kernel
theorem d_Ma_fitsOne_63 : decode b_Ma_fitsOne 63 = .ok (.iconst 1, 1) := by decide +kernel
theorem d_Ma_fitsOne_64 : decode b_Ma_fitsOne 64 = .ok (.goto 4, 3) := by decide +kernel
theorem d_Ma_fitsOne_67 : decode b_Ma_fitsOne 67 = .ok (.iconst 0, 1) := by decide +kernel
theorem d_Ma_fitsOne_68 : decode b_Ma_fitsOne 68 = .ok (.ireturn, 1) := by decide +kernel
theorem d_Ma_fitsOne_69 : decode b_Ma_fitsOne 69 = .ok (.iload_n 2, 1) := by decide +kernel
theorem d_Ma_fitsOne_70 : decode b_Ma_fitsOne 70 = .ok (.iload_n 1, 1) := by decide +kernel
theorem d_Ma_fitsOne_71 : decode b_Ma_fitsOne 71 = .ok (.if_icmp .le 7, 3) := by decide +kernel
theorem d_Ma_fitsOne_74 : decode b_Ma_fitsOne 74 = .ok (.iconst 1, 1) := by decide +kernel
theorem d_Ma_fitsOne_75 : decode b_Ma_fitsOne 75 = .ok (.goto 4, 3) := by decide +kernel
theorem d_Ma_fitsOne_78 : decode b_Ma_fitsOne 78 = .ok (.iconst 0, 1) := by decide +kernel
theorem d_Ma_fitsOne_79 : decode b_Ma_fitsOne 79 = .ok (.ireturn, 1) := by decide +kernel
theorem d_Ma_fitsOne_80 : decode b_Ma_fitsOne 80 = .ok (.iload_n 2, 1) := by decide +kernel
theorem d_Ma_fitsOne_81 : decode b_Ma_fitsOne 81 = .ok (.iconst 4, 1) := by decide +kernel
theorem d_Ma_fitsOne_82 : decode b_Ma_fitsOne 82 = .ok (.invokestatic 35, 3) := by decide +kernel
theorem d_Ma_fitsOne_85 : decode b_Ma_fitsOne 85 = .ok (.iload_n 1, 1) := by decide +kernel
theorem d_Ma_fitsOne_86 : decode b_Ma_fitsOne 86 = .ok (.iconst 4, 1) := by decide +kernel
theorem d_Ma_fitsOne_87 : decode b_Ma_fitsOne 87 = .ok (.invokestatic 35, 3) := by decide +kernel
theorem d_Ma_fitsOne_90 : decode b_Ma_fitsOne 90 = .ok (.if_icmp .ne 7, 3) := by decide +kernel
theorem d_Ma_fitsOne_93 : decode b_Ma_fitsOne 93 = .ok (.iconst 1, 1) := by decide +kernel
theorem d_Ma_fitsOne_94 : decode b_Ma_fitsOne 94 = .ok (.goto 4, 3) := by decide +kernel
theorem d_Ma_fitsOne_97 : decode b_Ma_fitsOne 97 = .ok (.iconst 0, 1) := by decide +kernel
theorem d_Ma_fitsOne_98 : decode b_Ma_fitsOne 98 = .ok (.ireturn, 1) := by decide +kernel
theorem d_Ma_fitsOne_99 : decode b_Ma_fitsOne 99 = .ok (.iconst 1, 1) := by decide +kernel
theorem d_Ma_fitsOne_100 : decode b_Ma_fitsOne 100 = .ok (.ireturn, 1) := by decide +kernel
theorem d_MB_respond_0 : decode b_MB_respond 0 = .ok (.aload_n 0, 1) := by decide +kernel
theorem d_MB_respond_1 : decode b_MB_respond 1 = .ok (.aload_n 1, 1) := by decide +kernel
theorem d_MB_respond_2 : decode b_MB_respond 2 = .ok (.getfield 154, 3) := by decide +kernel
theorem d_MB_respond_5 : decode b_MB_respond 5 = .ok (.invokevirtual 67, 3) := by decide +kernel
theorem d_MB_respond_8 : decode b_MB_respond 8 = .ok (.ifCond .ne 23, 3) := by decide +kernel
theorem d_MB_respond_11 : decode b_MB_respond 11 = .ok (.aload_n 0, 1) := by decide +kernel
theorem d_MB_respond_12 : decode b_MB_respond 12 = .ok (.getfield 19, 3) := by decide +kernel
theorem d_MB_respond_15 : decode b_MB_respond 15 = .ok (.aload_n 1, 1) := by decide +kernel
theorem d_MB_respond_16 : decode b_MB_respond 16 = .ok (.getfield 119, 3) := by decide +kernel
theorem d_MB_respond_19 : decode b_MB_respond 19 = .ok (.baload, 1) := by decide +kernel
theorem d_MB_respond_20 : decode b_MB_respond 20 = .ok (.ifCond .eq 9, 3) := by decide +kernel
theorem d_MB_respond_23 : decode b_MB_respond 23 = .ok (.ldc2_w 180, 3) := by decide +kernel
theorem d_MB_respond_26 : decode b_MB_respond 26 = .ok (.goto 4, 3) := by decide +kernel
theorem d_MB_respond_29 : decode b_MB_respond 29 = .ok (.lconst 0, 1) := by decide +kernel
theorem d_MB_respond_30 : decode b_MB_respond 30 = .ok (.lreturn, 1) := by decide +kernel
theorem d_MB_respond_31 : decode b_MB_respond 31 = .ok (.aload_n 0, 1) := by decide +kernel
theorem d_MB_respond_32 : decode b_MB_respond 32 = .ok (.getfield 10, 3) := by decide +kernel
theorem d_MB_respond_35 : decode b_MB_respond 35 = .ok (.aload_n 1, 1) := by decide +kernel
theorem d_MB_respond_36 : decode b_MB_respond 36 = .ok (.getfield 154, 3) := by decide +kernel
theorem d_MB_respond_39 : decode b_MB_respond 39 = .ok (.invokevirtual 70, 3) := by decide +kernel
theorem d_MB_respond_42 : decode b_MB_respond 42 = .ok (.checkcast 59, 3) := by decide +kernel
theorem d_MB_respond_45 : decode b_MB_respond 45 = .ok (.astore 4, 2) := by decide +kernel
theorem d_MB_respond_47 : decode b_MB_respond 47 = .ok (.aload 4, 2) := by decide +kernel
theorem d_MB_respond_49 : decode b_MB_respond 49 = .ok (.getfield 122, 3) := by decide +kernel
theorem d_MB_respond_52 : decode b_MB_respond 52 = .ok (.istore 5, 2) := by decide +kernel
theorem d_MB_respond_54 : decode b_MB_respond 54 = .ok (.aload 4, 2) := by decide +kernel
theorem d_MB_respond_56 : decode b_MB_respond 56 = .ok (.invokevirtual 182, 3) := by decide +kernel
theorem d_MB_respond_59 : decode b_MB_respond 59 = .ok (.istore 6, 2) := by decide +kernel
theorem d_MB_respond_61 : decode b_MB_respond 61 = .ok (.aload 4, 2) := by decide +kernel
theorem d_MB_respond_63 : decode b_MB_respond 63 = .ok (.dup, 1) := by decide +kernel
theorem d_MB_respond_64 : decode b_MB_respond 64 = .ok (.getfield 122, 3) := by decide +kernel
theorem d_MB_respond_67 : decode b_MB_respond 67 = .ok (.iconst 1, 1) := by decide +kernel
theorem d_MB_respond_68 : decode b_MB_respond 68 = .ok (.iadd, 1) := by decide +kernel
theorem d_MB_respond_69 : decode b_MB_respond 69 = .ok (.putfield 122, 3) := by decide +kernel
theorem d_MB_respond_72 : decode b_MB_respond 72 = .ok (.aload 4, 2) := by decide +kernel
theorem d_MB_respond_74 : decode b_MB_respond 74 = .ok (.getfield 185, 3) := by decide +kernel
theorem d_MB_respond_77 : decode b_MB_respond 77 = .ok (.iload 6, 2) := by decide +kernel
theorem d_MB_respond_79 : decode b_MB_respond 79 = .ok (.iaload, 1) := by decide +kernel
theorem d_MB_respond_80 : decode b_MB_respond 80 = .ok (.istore 7, 2) := by decide +kernel
theorem d_MB_respond_82 : decode b_MB_respond 82 = .ok (.aload 4, 2) := by decide +kernel
theorem d_MB_respond_84 : decode b_MB_respond 84 = .ok (.getfield 189, 3) := by decide +kernel
theorem d_MB_respond_87 : decode b_MB_respond 87 = .ok (.iload 6, 2) := by decide +kernel
theorem d_MB_respond_89 : decode b_MB_respond 89 = .ok (.iaload, 1) := by decide +kernel
theorem d_MB_respond_90 : decode b_MB_respond 90 = .ok (.tableswitch 60 1 4 #[30, 38, 42, 50], 30) := by decide +kernel
theorem d_MB_respond_120 : decode b_MB_respond 120 = .ok (.aload_n 1, 1) := by decide +kernel
theorem d_MB_respond_121 : decode b_MB_respond 121 = .ok (.iload 7, 2) := by decide +kernel
theorem d_MB_respond_123 : decode b_MB_respond 123 = .ok (.invokevirtual 192, 3) := by decide +kernel
theorem d_MB_respond_126 : decode b_MB_respond 126 = .ok (.i2l, 1) := by decide +kernel
theorem d_MB_respond_127 : decode b_MB_respond 127 = .ok (.lreturn, 1) := by decide +kernel
theorem d_MB_respond_128 : decode b_MB_respond 128 = .ok (.iload 5, 2) := by decide +kernel
theorem d_MB_respond_130 : decode b_MB_respond 130 = .ok (.i2l, 1) := by decide +kernel
theorem d_MB_respond_131 : decode b_MB_respond 131 = .ok (.lreturn, 1) := by decide +kernel
theorem d_MB_respond_132 : decode b_MB_respond 132 = .ok (.ldc2_w 195, 3) := by decide +kernel
theorem d_MB_respond_135 : decode b_MB_respond 135 = .ok (.iload 7, 2) := by decide +kernel
theorem d_MB_respond_137 : decode b_MB_respond 137 = .ok (.i2l, 1) := by decide +kernel
theorem d_MB_respond_138 : decode b_MB_respond 138 = .ok (.ladd, 1) := by decide +kernel
theorem d_MB_respond_139 : decode b_MB_respond 139 = .ok (.lreturn, 1) := by decide +kernel
theorem d_MB_respond_140 : decode b_MB_respond 140 = .ok (.aload_n 0, 1) := by decide +kernel
theorem d_MB_respond_141 : decode b_MB_respond 141 = .ok (.aload_n 1, 1) := by decide +kernel
theorem d_MB_respond_142 : decode b_MB_respond 142 = .ok (.iload_n 2, 1) := by decide +kernel
theorem d_MB_respond_143 : decode b_MB_respond 143 = .ok (.iload 7, 2) := by decide +kernel
theorem d_MB_respond_145 : decode b_MB_respond 145 = .ok (.iload_n 3, 1) := by decide +kernel
theorem d_MB_respond_146 : decode b_MB_respond 146 = .ok (.invokevirtual 197, 3) := by decide +kernel
theorem d_MB_respond_149 : decode b_MB_respond 149 = .ok (.lreturn, 1) := by decide +kernel
theorem d_MB_respond_150 : decode b_MB_respond 150 = .ok (.iload 7, 2) := by decide +kernel
theorem d_MB_respond_152 : decode b_MB_respond 152 = .ok (.i2l, 1) := by decide +kernel
theorem d_MB_respond_153 : decode b_MB_respond 153 = .ok (.lreturn, 1) := by decide +kernel
theorem d_Ru_placeInTurn_0 : decode b_Ru_placeInTurn 0 = .ok (.iconst 0, 1) := by decide +kernel
theorem d_Ru_placeInTurn_1 : decode b_Ru_placeInTurn 1 = .ok (.aload_n 0, 1) := by decide +kernel
theorem d_Ru_placeInTurn_2 : decode b_Ru_placeInTurn 2 = .ok (.getfield 22, 3) := by decide +kernel
theorem d_Ru_placeInTurn_5 : decode b_Ru_placeInTurn 5 = .ok (.aload_n 0, 1) := by decide +kernel
theorem d_Ru_placeInTurn_6 : decode b_Ru_placeInTurn 6 = .ok (.getfield 18, 3) := by decide +kernel
theorem d_Ru_placeInTurn_9 : decode b_Ru_placeInTurn 9 = .ok (.iconst 1, 1) := by decide +kernel
theorem d_Ru_placeInTurn_10 : decode b_Ru_placeInTurn 10 = .ok (.isub, 1) := by decide +kernel
theorem d_Ru_placeInTurn_11 : decode b_Ru_placeInTurn 11 = .ok (.invokestatic 57, 3) := by decide +kernel
theorem d_Ru_placeInTurn_14 : decode b_Ru_placeInTurn 14 = .ok (.invokestatic 63, 3) := by decide +kernel
theorem d_Ru_placeInTurn_17 : decode b_Ru_placeInTurn 17 = .ok (.ireturn, 1) := by decide +kernel
theorem d_MB_pass_0 : decode b_MB_pass 0 = .ok (.iload_n 3, 1) := by decide +kernel
theorem d_MB_pass_1 : decode b_MB_pass 1 = .ok (.bipush 8, 2) := by decide +kernel
theorem d_MB_pass_3 : decode b_MB_pass 3 = .ok (.idiv, 1) := by decide +kernel
theorem d_MB_pass_4 : decode b_MB_pass 4 = .ok (.istore 5, 2) := by decide +kernel
theorem d_MB_pass_6 : decode b_MB_pass 6 = .ok (.iload_n 3, 1) := by decide +kernel
theorem d_MB_pass_7 : decode b_MB_pass 7 = .ok (.bipush 8, 2) := by decide +kernel
theorem d_MB_pass_9 : decode b_MB_pass 9 = .ok (.irem, 1) := by decide +kernel
theorem d_MB_pass_10 : decode b_MB_pass 10 = .ok (.istore 6, 2) := by decide +kernel
theorem d_MB_pass_12 : decode b_MB_pass 12 = .ok (.aload_n 0, 1) := by decide +kernel
theorem d_MB_pass_13 : decode b_MB_pass 13 = .ok (.iload 5, 2) := by decide +kernel
theorem d_MB_pass_15 : decode b_MB_pass 15 = .ok (.iload 6, 2) := by decide +kernel
theorem d_MB_pass_17 : decode b_MB_pass 17 = .ok (.aload_n 1, 1) := by decide +kernel
theorem d_MB_pass_18 : decode b_MB_pass 18 = .ok (.getfield 139, 3) := by decide +kernel
theorem d_MB_pass_21 : decode b_MB_pass 21 = .ok (.aload_n 1, 1) := by decide +kernel
theorem d_MB_pass_22 : decode b_MB_pass 22 = .ok (.getfield 142, 3) := by decide +kernel
theorem d_MB_pass_25 : decode b_MB_pass 25 = .ok (.aload_n 1, 1) := by decide +kernel
theorem d_MB_pass_26 : decode b_MB_pass 26 = .ok (.getfield 145, 3) := by decide +kernel
theorem d_MB_pass_29 : decode b_MB_pass 29 = .ok (.iload 4, 2) := by decide +kernel
theorem d_MB_pass_31 : decode b_MB_pass 31 = .ok (.iconst 1, 1) := by decide +kernel
theorem d_MB_pass_32 : decode b_MB_pass 32 = .ok (.iadd, 1) := by decide +kernel
theorem d_MB_pass_33 : decode b_MB_pass 33 = .ok (.iload_n 2, 1) := by decide +kernel
theorem d_MB_pass_34 : decode b_MB_pass 34 = .ok (.invokevirtual 96, 3) := by decide +kernel
theorem d_MB_pass_37 : decode b_MB_pass 37 = .ok (.lreturn, 1) := by decide +kernel
theorem d_MB_verify_0 : decode b_MB_verify 0 = .ok (.iload_n 1, 1) := by decide +kernel
theorem d_MB_verify_1 : decode b_MB_verify 1 = .ok (.iload_n 2, 1) := by decide +kernel
theorem d_MB_verify_2 : decode b_MB_verify 2 = .ok (.invokestatic 48, 3) := by decide +kernel
theorem d_MB_verify_5 : decode b_MB_verify 5 = .ok (.ifCond .eq 23, 3) := by decide +kernel
theorem d_MB_verify_8 : decode b_MB_verify 8 = .ok (.iload_n 3, 1) := by decide +kernel
theorem d_MB_verify_9 : decode b_MB_verify 9 = .ok (.iconst 0, 1) := by decide +kernel
theorem d_MB_verify_10 : decode b_MB_verify 10 = .ok (.iconst 2, 1) := by decide +kernel
theorem d_MB_verify_11 : decode b_MB_verify 11 = .ok (.invokestatic 34, 3) := by decide +kernel
theorem d_MB_verify_14 : decode b_MB_verify 14 = .ok (.ifCond .eq 14, 3) := by decide +kernel
theorem d_MB_verify_17 : decode b_MB_verify 17 = .ok (.aload_n 0, 1) := by decide +kernel
theorem d_MB_verify_18 : decode b_MB_verify 18 = .ok (.getfield 26, 3) := by decide +kernel
theorem d_MB_verify_21 : decode b_MB_verify 21 = .ok (.iload_n 2, 1) := by decide +kernel
theorem d_MB_verify_22 : decode b_MB_verify 22 = .ok (.invokevirtual 52, 3) := by decide +kernel
theorem d_MB_verify_25 : decode b_MB_verify 25 = .ok (.ifCond .ne 5, 3) := by decide +kernel
theorem d_MB_verify_28 : decode b_MB_verify 28 = .ok (.iconst (-1), 1) := by decide +kernel
theorem d_MB_verify_29 : decode b_MB_verify 29 = .ok (.ireturn, 1) := by decide +kernel
theorem d_MB_verify_30 : decode b_MB_verify 30 = .ok (.aload_n 0, 1) := by decide +kernel
theorem d_MB_verify_31 : decode b_MB_verify 31 = .ok (.iload_n 1, 1) := by decide +kernel
theorem d_MB_verify_32 : decode b_MB_verify 32 = .ok (.iload_n 2, 1) := by decide +kernel
theorem d_MB_verify_33 : decode b_MB_verify 33 = .ok (.invokevirtual 100, 3) := by decide +kernel
theorem d_MB_verify_36 : decode b_MB_verify 36 = .ok (.istore 5, 2) := by decide +kernel
theorem d_MB_verify_38 : decode b_MB_verify 38 = .ok (.iload 5, 2) := by decide +kernel
theorem d_MB_verify_40 : decode b_MB_verify 40 = .ok (.iload_n 3, 1) := by decide +kernel
theorem d_MB_verify_41 : decode b_MB_verify 41 = .ok (.iload 4, 2) := by decide +kernel
theorem d_MB_verify_43 : decode b_MB_verify 43 = .ok (.invokestatic 104, 3) := by decide +kernel
theorem d_MB_verify_46 : decode b_MB_verify 46 = .ok (.istore 6, 2) := by decide +kernel
theorem d_MB_verify_48 : decode b_MB_verify 48 = .ok (.iload 6, 2) := by decide +kernel
theorem d_MB_verify_50 : decode b_MB_verify 50 = .ok (.ifCond .eq 9, 3) := by decide +kernel
theorem d_MB_verify_53 : decode b_MB_verify 53 = .ok (.aload_n 0, 1) := by decide +kernel
theorem d_MB_verify_54 : decode b_MB_verify 54 = .ok (.iload_n 1, 1) := by decide +kernel
theorem d_MB_verify_55 : decode b_MB_verify 55 = .ok (.iload_n 2, 1) := by decide +kernel
theorem d_MB_verify_56 : decode b_MB_verify 56 = .ok (.invokevirtual 107, 3) := by decide +kernel
theorem d_MB_verify_59 : decode b_MB_verify 59 = .ok (.aload_n 0, 1) := by decide +kernel
theorem d_MB_verify_60 : decode b_MB_verify 60 = .ok (.getfield 26, 3) := by decide +kernel
theorem d_MB_verify_63 : decode b_MB_verify 63 = .ok (.invokevirtual 45, 3) := by decide +kernel
theorem d_MB_verify_66 : decode b_MB_verify 66 = .ok (.iload 6, 2) := by decide +kernel
theorem d_MB_verify_68 : decode b_MB_verify 68 = .ok (.ifCond .eq 8, 3) := by decide +kernel
theorem d_MB_verify_71 : decode b_MB_verify 71 = .ok (.iload 5, 2) := by decide +kernel
theorem d_MB_verify_73 : decode b_MB_verify 73 = .ok (.goto 8, 3) := by decide +kernel
theorem d_MB_verify_76 : decode b_MB_verify 76 = .ok (.bipush (-10), 2) := by decide +kernel
theorem d_MB_verify_78 : decode b_MB_verify 78 = .ok (.iload 5, 2) := by decide +kernel
theorem d_MB_verify_80 : decode b_MB_verify 80 = .ok (.isub, 1) := by decide +kernel
theorem d_MB_verify_81 : decode b_MB_verify 81 = .ok (.ireturn, 1) := by decide +kernel
theorem d_MB_countSought_0 : decode b_MB_countSought 0 = .ok (.iconst 0, 1) := by decide +kernel
theorem d_MB_countSought_1 : decode b_MB_countSought 1 = .ok (.istore_n 3, 1) := by decide +kernel
theorem d_MB_countSought_2 : decode b_MB_countSought 2 = .ok (.iconst 0, 1) := by decide +kernel
theorem d_MB_countSought_3 : decode b_MB_countSought 3 = .ok (.istore 4, 2) := by decide +kernel
theorem d_MB_countSought_5 : decode b_MB_countSought 5 = .ok (.iload 4, 2) := by decide +kernel
theorem d_MB_countSought_7 : decode b_MB_countSought 7 = .ok (.aload_n 0, 1) := by decide +kernel
theorem d_MB_countSought_8 : decode b_MB_countSought 8 = .ok (.getfield 16, 3) := by decide +kernel
theorem d_MB_countSought_11 : decode b_MB_countSought 11 = .ok (.invokevirtual 56, 3) := by decide +kernel
theorem d_MB_countSought_14 : decode b_MB_countSought 14 = .ok (.if_icmp .ge 33, 3) := by decide +kernel
theorem d_MB_countSought_17 : decode b_MB_countSought 17 = .ok (.aload_n 0, 1) := by decide +kernel
theorem d_MB_countSought_18 : decode b_MB_countSought 18 = .ok (.aload_n 0, 1) := by decide +kernel
theorem d_MB_countSought_19 : decode b_MB_countSought 19 = .ok (.getfield 16, 3) := by decide +kernel
theorem d_MB_countSought_22 : decode b_MB_countSought 22 = .ok (.iload 4, 2) := by decide +kernel
theorem d_MB_countSought_24 : decode b_MB_countSought 24 = .ok (.invokevirtual 70, 3) := by decide +kernel
theorem d_MB_countSought_27 : decode b_MB_countSought 27 = .ok (.checkcast 113, 3) := by decide +kernel
theorem d_MB_countSought_30 : decode b_MB_countSought 30 = .ok (.iload_n 1, 1) := by decide +kernel
theorem d_MB_countSought_31 : decode b_MB_countSought 31 = .ok (.iload_n 2, 1) := by decide +kernel
theorem d_MB_countSought_32 : decode b_MB_countSought 32 = .ok (.invokevirtual 208, 3) := by decide +kernel
theorem d_MB_countSought_35 : decode b_MB_countSought 35 = .ok (.ifCond .eq 6, 3) := by decide +kernel
theorem d_MB_countSought_38 : decode b_MB_countSought 38 = .ok (.iinc 3 1, 3) := by decide +kernel
theorem d_MB_countSought_41 : decode b_MB_countSought 41 = .ok (.iinc 4 1, 3) := by decide +kernel
theorem d_MB_countSought_44 : decode b_MB_countSought 44 = .ok (.goto (-39), 3) := by decide +kernel
theorem d_MB_countSought_47 : decode b_MB_countSought 47 = .ok (.iload_n 3, 1) := by decide +kernel
theorem d_MB_countSought_48 : decode b_MB_countSought 48 = .ok (.ireturn, 1) := by decide +kernel
theorem d_MB_isSought_0 : decode b_MB_isSought 0 = .ok (.aload_n 1, 1) := by decide +kernel
theorem d_MB_isSought_1 : decode b_MB_isSought 1 = .ok (.getfield 118, 3) := by decide +kernel
theorem d_MB_isSought_4 : decode b_MB_isSought 4 = .ok (.ifCond .eq 34, 3) := by decide +kernel
theorem d_MB_isSought_7 : decode b_MB_isSought 7 = .ok (.aload_n 1, 1) := by decide +kernel
theorem d_MB_isSought_8 : decode b_MB_isSought 8 = .ok (.getfield 119, 3) := by decide +kernel
theorem d_MB_isSought_11 : decode b_MB_isSought 11 = .ok (.iload_n 2, 1) := by decide +kernel
theorem d_MB_isSought_12 : decode b_MB_isSought 12 = .ok (.if_icmp .ne 26, 3) := by decide +kernel
theorem d_MB_isSought_15 : decode b_MB_isSought 15 = .ok (.aload_n 1, 1) := by decide +kernel
theorem d_MB_isSought_16 : decode b_MB_isSought 16 = .ok (.getfield 136, 3) := by decide +kernel
theorem d_MB_isSought_19 : decode b_MB_isSought 19 = .ok (.iload_n 3, 1) := by decide +kernel
theorem d_MB_isSought_20 : decode b_MB_isSought 20 = .ok (.if_icmp .ne 18, 3) := by decide +kernel
theorem d_MB_isSought_23 : decode b_MB_isSought 23 = .ok (.aload_n 0, 1) := by decide +kernel
theorem d_MB_isSought_24 : decode b_MB_isSought 24 = .ok (.getfield 26, 3) := by decide +kernel
theorem d_MB_isSought_27 : decode b_MB_isSought 27 = .ok (.aload_n 1, 1) := by decide +kernel
theorem d_MB_isSought_28 : decode b_MB_isSought 28 = .ok (.invokevirtual 205, 3) := by decide +kernel
theorem d_MB_isSought_31 : decode b_MB_isSought 31 = .ok (.ifCond .eq 7, 3) := by decide +kernel
theorem d_MB_isSought_34 : decode b_MB_isSought 34 = .ok (.iconst 1, 1) := by decide +kernel
theorem d_MB_isSought_35 : decode b_MB_isSought 35 = .ok (.goto 4, 3) := by decide +kernel
theorem d_MB_isSought_38 : decode b_MB_isSought 38 = .ok (.iconst 0, 1) := by decide +kernel
theorem d_MB_isSought_39 : decode b_MB_isSought 39 = .ok (.ireturn, 1) := by decide +kernel
theorem d_MB_isWanted_0 : decode b_MB_isWanted 0 = .ok (.iload_n 1, 1) := by decide +kernel
theorem d_MB_isWanted_1 : decode b_MB_isWanted 1 = .ok (.lookupswitch 49 #[(0, 27), (1, 38)], 27) := by decide +kernel
theorem d_MB_isWanted_28 : decode b_MB_isWanted 28 = .ok (.iload_n 0, 1) := by decide +kernel
theorem d_MB_isWanted_29 : decode b_MB_isWanted 29 = .ok (.iload_n 2, 1) := by decide +kernel
theorem d_MB_isWanted_30 : decode b_MB_isWanted 30 = .ok (.if_icmp .ne 7, 3) := by decide +kernel
theorem d_MB_isWanted_33 : decode b_MB_isWanted 33 = .ok (.iconst 1, 1) := by decide +kernel
theorem d_MB_isWanted_34 : decode b_MB_isWanted 34 = .ok (.goto 4, 3) := by decide +kernel
theorem d_MB_isWanted_37 : decode b_MB_isWanted 37 = .ok (.iconst 0, 1) := by decide +kernel
theorem d_MB_isWanted_38 : decode b_MB_isWanted 38 = .ok (.ireturn, 1) := by decide +kernel
theorem d_MB_isWanted_39 : decode b_MB_isWanted 39 = .ok (.iload_n 0, 1) := by decide +kernel
theorem d_MB_isWanted_40 : decode b_MB_isWanted 40 = .ok (.iload_n 2, 1) := by decide +kernel
theorem d_MB_isWanted_41 : decode b_MB_isWanted 41 = .ok (.if_icmp .lt 7, 3) := by decide +kernel
theorem d_MB_isWanted_44 : decode b_MB_isWanted 44 = .ok (.iconst 1, 1) := by decide +kernel
theorem d_MB_isWanted_45 : decode b_MB_isWanted 45 = .ok (.goto 4, 3) := by decide +kernel
theorem d_MB_isWanted_48 : decode b_MB_isWanted 48 = .ok (.iconst 0, 1) := by decide +kernel
theorem d_MB_isWanted_49 : decode b_MB_isWanted 49 = .ok (.ireturn, 1) := by decide +kernel
theorem d_MB_isWanted_50 : decode b_MB_isWanted 50 = .ok (.iload_n 0, 1) := by decide +kernel
theorem d_MB_isWanted_51 : decode b_MB_isWanted 51 = .ok (.iload_n 2, 1) := by decide +kernel
theorem d_MB_isWanted_52 : decode b_MB_isWanted 52 = .ok (.if_icmp .gt 7, 3) := by decide +kernel
theorem d_MB_isWanted_55 : decode b_MB_isWanted 55 = .ok (.iconst 1, 1) := by decide +kernel
theorem d_MB_isWanted_56 : decode b_MB_isWanted 56 = .ok (.goto 4, 3) := by decide +kernel
theorem d_MB_isWanted_59 : decode b_MB_isWanted 59 = .ok (.iconst 0, 1) := by decide +kernel
theorem d_MB_isWanted_60 : decode b_MB_isWanted 60 = .ok (.ireturn, 1) := by decide +kernel
theorem d_MB_verifySought_0 : decode b_MB_verifySought 0 = .ok (.iconst 0, 1) := by decide +kernel
theorem d_MB_verifySought_1 : decode b_MB_verifySought 1 = .ok (.istore_n 3, 1) := by decide +kernel
theorem d_MB_verifySought_2 : decode b_MB_verifySought 2 = .ok (.iload_n 3, 1) := by decide +kernel
theorem d_MB_verifySought_3 : decode b_MB_verifySought 3 = .ok (.aload_n 0, 1) := by decide +kernel
theorem d_MB_verifySought_4 : decode b_MB_verifySought 4 = .ok (.getfield 16, 3) := by decide +kernel
theorem d_MB_verifySought_7 : decode b_MB_verifySought 7 = .ok (.invokevirtual 56, 3) := by decide +kernel
theorem d_MB_verifySought_10 : decode b_MB_verifySought 10 = .ok (.if_icmp .ge 39, 3) := by decide +kernel
theorem d_MB_verifySought_13 : decode b_MB_verifySought 13 = .ok (.aload_n 0, 1) := by decide +kernel
theorem d_MB_verifySought_14 : decode b_MB_verifySought 14 = .ok (.getfield 16, 3) := by decide +kernel
theorem d_MB_verifySought_17 : decode b_MB_verifySought 17 = .ok (.iload_n 3, 1) := by decide +kernel
theorem d_MB_verifySought_18 : decode b_MB_verifySought 18 = .ok (.invokevirtual 70, 3) := by decide +kernel
theorem d_MB_verifySought_21 : decode b_MB_verifySought 21 = .ok (.checkcast 113, 3) := by decide +kernel
theorem d_MB_verifySought_24 : decode b_MB_verifySought 24 = .ok (.astore 4, 2) := by decide +kernel
theorem d_MB_verifySought_26 : decode b_MB_verifySought 26 = .ok (.aload_n 0, 1) := by decide +kernel
theorem d_MB_verifySought_27 : decode b_MB_verifySought 27 = .ok (.aload 4, 2) := by decide +kernel
theorem d_MB_verifySought_29 : decode b_MB_verifySought 29 = .ok (.iload_n 1, 1) := by decide +kernel
theorem d_MB_verifySought_30 : decode b_MB_verifySought 30 = .ok (.iload_n 2, 1) := by decide +kernel
theorem d_MB_verifySought_31 : decode b_MB_verifySought 31 = .ok (.invokevirtual 208, 3) := by decide +kernel
theorem d_MB_verifySought_34 : decode b_MB_verifySought 34 = .ok (.ifCond .eq 9, 3) := by decide +kernel
theorem d_MB_verifySought_37 : decode b_MB_verifySought 37 = .ok (.aload 4, 2) := by decide +kernel
theorem d_MB_verifySought_39 : decode b_MB_verifySought 39 = .ok (.iconst 1, 1) := by decide +kernel
theorem d_MB_verifySought_40 : decode b_MB_verifySought 40 = .ok (.putfield 115, 3) := by decide +kernel
theorem d_MB_verifySought_43 : decode b_MB_verifySought 43 = .ok (.iinc 3 1, 3) := by decide +kernel
theorem d_MB_verifySought_46 : decode b_MB_verifySought 46 = .ok (.goto (-44), 3) := by decide +kernel
theorem d_MB_verifySought_49 : decode b_MB_verifySought 49 = .ok (.return_, 1) := by decide +kernel
theorem d_MB_inOrder_0 : decode b_MB_inOrder 0 = .ok (.iload_n 1, 1) := by decide +kernel
theorem d_MB_inOrder_1 : decode b_MB_inOrder 1 = .ok (.iload_n 2, 1) := by decide +kernel
theorem d_MB_inOrder_2 : decode b_MB_inOrder 2 = .ok (.invokestatic 48, 3) := by decide +kernel
theorem d_MB_inOrder_5 : decode b_MB_inOrder 5 = .ok (.ifCond .eq 14, 3) := by decide +kernel
theorem d_MB_inOrder_8 : decode b_MB_inOrder 8 = .ok (.aload_n 0, 1) := by decide +kernel
theorem d_MB_inOrder_9 : decode b_MB_inOrder 9 = .ok (.getfield 26, 3) := by decide +kernel
theorem d_MB_inOrder_12 : decode b_MB_inOrder 12 = .ok (.iload_n 2, 1) := by decide +kernel
theorem d_MB_inOrder_13 : decode b_MB_inOrder 13 = .ok (.invokevirtual 52, 3) := by decide +kernel
theorem d_MB_inOrder_16 : decode b_MB_inOrder 16 = .ok (.ifCond .ne 5, 3) := by decide +kernel
theorem d_MB_inOrder_19 : decode b_MB_inOrder 19 = .ok (.iconst (-1), 1) := by decide +kernel
theorem d_MB_inOrder_20 : decode b_MB_inOrder 20 = .ok (.ireturn, 1) := by decide +kernel
theorem d_MB_inOrder_21 : decode b_MB_inOrder 21 = .ok (.aload_n 0, 1) := by decide +kernel
theorem d_MB_inOrder_22 : decode b_MB_inOrder 22 = .ok (.iload_n 1, 1) := by decide +kernel
theorem d_MB_inOrder_23 : decode b_MB_inOrder 23 = .ok (.iload_n 2, 1) := by decide +kernel
theorem d_MB_inOrder_24 : decode b_MB_inOrder 24 = .ok (.invokevirtual 110, 3) := by decide +kernel
theorem d_MB_inOrder_27 : decode b_MB_inOrder 27 = .ok (.istore_n 3, 1) := by decide +kernel
theorem d_MB_inOrder_28 : decode b_MB_inOrder 28 = .ok (.aload_n 0, 1) := by decide +kernel
theorem d_MB_inOrder_29 : decode b_MB_inOrder 29 = .ok (.getfield 26, 3) := by decide +kernel
theorem d_MB_inOrder_32 : decode b_MB_inOrder 32 = .ok (.invokevirtual 45, 3) := by decide +kernel
theorem d_MB_inOrder_35 : decode b_MB_inOrder 35 = .ok (.iload_n 3, 1) := by decide +kernel
theorem d_MB_inOrder_36 : decode b_MB_inOrder 36 = .ok (.bipush (-10), 2) := by decide +kernel
theorem d_MB_inOrder_38 : decode b_MB_inOrder 38 = .ok (.if_icmp .ne 6, 3) := by decide +kernel
theorem d_MB_inOrder_41 : decode b_MB_inOrder 41 = .ok (.bipush (-10), 2) := by decide +kernel
theorem d_MB_inOrder_43 : decode b_MB_inOrder 43 = .ok (.ireturn, 1) := by decide +kernel
theorem d_MB_inOrder_44 : decode b_MB_inOrder 44 = .ok (.aload_n 0, 1) := by decide +kernel
theorem d_MB_inOrder_45 : decode b_MB_inOrder 45 = .ok (.getfield 16, 3) := by decide +kernel
theorem d_MB_inOrder_48 : decode b_MB_inOrder 48 = .ok (.iload_n 3, 1) := by decide +kernel
theorem d_MB_inOrder_49 : decode b_MB_inOrder 49 = .ok (.invokevirtual 70, 3) := by decide +kernel
theorem d_MB_inOrder_52 : decode b_MB_inOrder 52 = .ok (.checkcast 113, 3) := by decide +kernel
theorem d_MB_inOrder_55 : decode b_MB_inOrder 55 = .ok (.iconst 1, 1) := by decide +kernel
theorem d_MB_inOrder_56 : decode b_MB_inOrder 56 = .ok (.putfield 115, 3) := by decide +kernel
theorem d_MB_inOrder_59 : decode b_MB_inOrder 59 = .ok (.aload_n 0, 1) := by decide +kernel
theorem d_MB_inOrder_60 : decode b_MB_inOrder 60 = .ok (.iload_n 3, 1) := by decide +kernel
theorem d_MB_inOrder_61 : decode b_MB_inOrder 61 = .ok (.putfield 30, 3) := by decide +kernel
theorem d_MB_inOrder_64 : decode b_MB_inOrder 64 = .ok (.iload_n 3, 1) := by decide +kernel
theorem d_MB_inOrder_65 : decode b_MB_inOrder 65 = .ok (.ireturn, 1) := by decide +kernel
theorem d_MB_firstSoughtAfterMark_0 : decode b_MB_firstSoughtAfterMark 0 = .ok (.aload_n 0, 1) := by decide +kernel
theorem d_MB_firstSoughtAfterMark_1 : decode b_MB_firstSoughtAfterMark 1 = .ok (.getfield 30, 3) := by decide +kernel
theorem d_MB_firstSoughtAfterMark_4 : decode b_MB_firstSoughtAfterMark 4 = .ok (.iconst 1, 1) := by decide +kernel
theorem d_MB_firstSoughtAfterMark_5 : decode b_MB_firstSoughtAfterMark 5 = .ok (.iadd, 1) := by decide +kernel
theorem d_MB_firstSoughtAfterMark_6 : decode b_MB_firstSoughtAfterMark 6 = .ok (.istore_n 3, 1) := by decide +kernel
theorem d_MB_firstSoughtAfterMark_7 : decode b_MB_firstSoughtAfterMark 7 = .ok (.iload_n 3, 1) := by decide +kernel
theorem d_MB_firstSoughtAfterMark_8 : decode b_MB_firstSoughtAfterMark 8 = .ok (.aload_n 0, 1) := by decide +kernel
theorem d_MB_firstSoughtAfterMark_9 : decode b_MB_firstSoughtAfterMark 9 = .ok (.getfield 16, 3) := by decide +kernel
theorem d_MB_firstSoughtAfterMark_12 : decode b_MB_firstSoughtAfterMark 12 = .ok (.invokevirtual 56, 3) := by decide +kernel
theorem d_MB_firstSoughtAfterMark_15 : decode b_MB_firstSoughtAfterMark 15 = .ok (.if_icmp .ge 31, 3) := by decide +kernel
theorem d_MB_firstSoughtAfterMark_18 : decode b_MB_firstSoughtAfterMark 18 = .ok (.aload_n 0, 1) := by decide +kernel
theorem d_MB_firstSoughtAfterMark_19 : decode b_MB_firstSoughtAfterMark 19 = .ok (.aload_n 0, 1) := by decide +kernel
theorem d_MB_firstSoughtAfterMark_20 : decode b_MB_firstSoughtAfterMark 20 = .ok (.getfield 16, 3) := by decide +kernel
theorem d_MB_firstSoughtAfterMark_23 : decode b_MB_firstSoughtAfterMark 23 = .ok (.iload_n 3, 1) := by decide +kernel
theorem d_MB_firstSoughtAfterMark_24 : decode b_MB_firstSoughtAfterMark 24 = .ok (.invokevirtual 70, 3) := by decide +kernel
theorem d_MB_firstSoughtAfterMark_27 : decode b_MB_firstSoughtAfterMark 27 = .ok (.checkcast 113, 3) := by decide +kernel
theorem d_MB_firstSoughtAfterMark_30 : decode b_MB_firstSoughtAfterMark 30 = .ok (.iload_n 1, 1) := by decide +kernel
theorem d_MB_firstSoughtAfterMark_31 : decode b_MB_firstSoughtAfterMark 31 = .ok (.iload_n 2, 1) := by decide +kernel
theorem d_MB_firstSoughtAfterMark_32 : decode b_MB_firstSoughtAfterMark 32 = .ok (.invokevirtual 208, 3) := by decide +kernel
theorem d_MB_firstSoughtAfterMark_35 : decode b_MB_firstSoughtAfterMark 35 = .ok (.ifCond .eq 5, 3) := by decide +kernel
theorem d_MB_firstSoughtAfterMark_38 : decode b_MB_firstSoughtAfterMark 38 = .ok (.iload_n 3, 1) := by decide +kernel
theorem d_MB_firstSoughtAfterMark_39 : decode b_MB_firstSoughtAfterMark 39 = .ok (.ireturn, 1) := by decide +kernel
theorem d_MB_firstSoughtAfterMark_40 : decode b_MB_firstSoughtAfterMark 40 = .ok (.iinc 3 1, 3) := by decide +kernel
theorem d_MB_firstSoughtAfterMark_43 : decode b_MB_firstSoughtAfterMark 43 = .ok (.goto (-36), 3) := by decide +kernel
theorem d_MB_firstSoughtAfterMark_46 : decode b_MB_firstSoughtAfterMark 46 = .ok (.bipush (-10), 2) := by decide +kernel
theorem d_MB_firstSoughtAfterMark_48 : decode b_MB_firstSoughtAfterMark 48 = .ok (.ireturn, 1) := by decide +kernel
theorem d_MB_rewind_0 : decode b_MB_rewind 0 = .ok (.aload_n 0, 1) := by decide +kernel
theorem d_MB_rewind_1 : decode b_MB_rewind 1 = .ok (.getfield 30, 3) := by decide +kernel
theorem d_MB_rewind_4 : decode b_MB_rewind 4 = .ok (.istore_n 1, 1) := by decide +kernel
theorem d_MB_rewind_5 : decode b_MB_rewind 5 = .ok (.aload_n 0, 1) := by decide +kernel
theorem d_MB_rewind_6 : decode b_MB_rewind 6 = .ok (.iconst (-1), 1) := by decide +kernel
theorem d_MB_rewind_7 : decode b_MB_rewind 7 = .ok (.putfield 30, 3) := by decide +kernel
theorem d_MB_rewind_10 : decode b_MB_rewind 10 = .ok (.iload_n 1, 1) := by decide +kernel
theorem d_MB_rewind_11 : decode b_MB_rewind 11 = .ok (.ireturn, 1) := by decide +kernel
theorem d_MB_open_0 : decode b_MB_open 0 = .ok (.iload_n 1, 1) := by decide +kernel
theorem d_MB_open_1 : decode b_MB_open 1 = .ok (.invokestatic 87, 3) := by decide +kernel
theorem d_MB_open_4 : decode b_MB_open 4 = .ok (.ifCond .ne 5, 3) := by decide +kernel
theorem d_MB_open_7 : decode b_MB_open 7 = .ok (.iconst (-1), 1) := by decide +kernel
theorem d_MB_open_8 : decode b_MB_open 8 = .ok (.ireturn, 1) := by decide +kernel
theorem d_MB_open_9 : decode b_MB_open 9 = .ok (.iconst 0, 1) := by decide +kernel
theorem d_MB_open_10 : decode b_MB_open 10 = .ok (.istore_n 2, 1) := by decide +kernel
theorem d_MB_open_11 : decode b_MB_open 11 = .ok (.iload_n 2, 1) := by decide +kernel
theorem d_MB_open_12 : decode b_MB_open 12 = .ok (.aload_n 0, 1) := by decide +kernel
theorem d_MB_open_13 : decode b_MB_open 13 = .ok (.getfield 16, 3) := by decide +kernel
theorem d_MB_open_16 : decode b_MB_open 16 = .ok (.invokevirtual 56, 3) := by decide +kernel
theorem d_MB_open_19 : decode b_MB_open 19 = .ok (.if_icmp .ge 45, 3) := by decide +kernel
theorem d_MB_open_22 : decode b_MB_open 22 = .ok (.aload_n 0, 1) := by decide +kernel
theorem d_MB_open_23 : decode b_MB_open 23 = .ok (.getfield 16, 3) := by decide +kernel
theorem d_MB_open_26 : decode b_MB_open 26 = .ok (.iload_n 2, 1) := by decide +kernel
theorem d_MB_open_27 : decode b_MB_open 27 = .ok (.invokevirtual 70, 3) := by decide +kernel
theorem d_MB_open_30 : decode b_MB_open 30 = .ok (.checkcast 113, 3) := by decide +kernel
theorem d_MB_open_33 : decode b_MB_open 33 = .ok (.astore_n 3, 1) := by decide +kernel
theorem d_MB_open_34 : decode b_MB_open 34 = .ok (.aload_n 3, 1) := by decide +kernel
theorem d_MB_open_35 : decode b_MB_open 35 = .ok (.getfield 118, 3) := by decide +kernel
theorem d_MB_open_38 : decode b_MB_open 38 = .ok (.ifCond .eq 20, 3) := by decide +kernel
theorem d_MB_open_41 : decode b_MB_open 41 = .ok (.aload_n 3, 1) := by decide +kernel
theorem d_MB_open_42 : decode b_MB_open 42 = .ok (.getfield 119, 3) := by decide +kernel
theorem d_MB_open_45 : decode b_MB_open 45 = .ok (.iload_n 1, 1) := by decide +kernel
theorem d_MB_open_46 : decode b_MB_open 46 = .ok (.if_icmp .ne 12, 3) := by decide +kernel
theorem d_MB_open_49 : decode b_MB_open 49 = .ok (.aload_n 3, 1) := by decide +kernel
theorem d_MB_open_50 : decode b_MB_open 50 = .ok (.getfield 115, 3) := by decide +kernel
theorem d_MB_open_53 : decode b_MB_open 53 = .ok (.ifCond .ne 5, 3) := by decide +kernel
theorem d_MB_open_56 : decode b_MB_open 56 = .ok (.iload_n 2, 1) := by decide +kernel
theorem d_MB_open_57 : decode b_MB_open 57 = .ok (.ireturn, 1) := by decide +kernel
theorem d_MB_open_58 : decode b_MB_open 58 = .ok (.iinc 2 1, 3) := by decide +kernel
theorem d_MB_open_61 : decode b_MB_open 61 = .ok (.goto (-50), 3) := by decide +kernel
theorem d_MB_open_64 : decode b_MB_open 64 = .ok (.bipush (-10), 2) := by decide +kernel
theorem d_MB_open_66 : decode b_MB_open 66 = .ok (.ireturn, 1) := by decide +kernel
theorem d_MB_unused_0 : decode b_MB_unused 0 = .ok (.iconst 0, 1) := by decide +kernel
theorem d_MB_unused_1 : decode b_MB_unused 1 = .ok (.istore_n 1, 1) := by decide +kernel
theorem d_MB_unused_2 : decode b_MB_unused 2 = .ok (.iload_n 1, 1) := by decide +kernel
theorem d_MB_unused_3 : decode b_MB_unused 3 = .ok (.aload_n 0, 1) := by decide +kernel
theorem d_MB_unused_4 : decode b_MB_unused 4 = .ok (.getfield 10, 3) := by decide +kernel
theorem d_MB_unused_7 : decode b_MB_unused 7 = .ok (.invokevirtual 56, 3) := by decide +kernel
theorem d_MB_unused_10 : decode b_MB_unused 10 = .ok (.if_icmp .ge 37, 3) := by decide +kernel
theorem d_MB_unused_13 : decode b_MB_unused 13 = .ok (.aload_n 0, 1) := by decide +kernel
theorem d_MB_unused_14 : decode b_MB_unused 14 = .ok (.getfield 10, 3) := by decide +kernel
theorem d_MB_unused_17 : decode b_MB_unused 17 = .ok (.iload_n 1, 1) := by decide +kernel
theorem d_MB_unused_18 : decode b_MB_unused 18 = .ok (.invokevirtual 70, 3) := by decide +kernel
theorem d_MB_unused_21 : decode b_MB_unused 21 = .ok (.checkcast 59, 3) := by decide +kernel
theorem d_MB_unused_24 : decode b_MB_unused 24 = .ok (.astore_n 2, 1) := by decide +kernel
theorem d_MB_unused_25 : decode b_MB_unused 25 = .ok (.aload_n 2, 1) := by decide +kernel
theorem d_MB_unused_26 : decode b_MB_unused 26 = .ok (.getfield 74, 3) := by decide +kernel
theorem d_MB_unused_29 : decode b_MB_unused 29 = .ok (.ifCond .eq 12, 3) := by decide +kernel
theorem d_MB_unused_32 : decode b_MB_unused 32 = .ok (.aload_n 2, 1) := by decide +kernel
theorem d_MB_unused_33 : decode b_MB_unused 33 = .ok (.getfield 122, 3) := by decide +kernel
theorem d_MB_unused_36 : decode b_MB_unused 36 = .ok (.ifCond .ne 5, 3) := by decide +kernel
theorem d_MB_unused_39 : decode b_MB_unused 39 = .ok (.iload_n 1, 1) := by decide +kernel
theorem d_MB_unused_40 : decode b_MB_unused 40 = .ok (.ireturn, 1) := by decide +kernel
theorem d_MB_unused_41 : decode b_MB_unused 41 = .ok (.iinc 1 1, 3) := by decide +kernel
theorem d_MB_unused_44 : decode b_MB_unused 44 = .ok (.goto (-42), 3) := by decide +kernel
theorem d_MB_unused_47 : decode b_MB_unused 47 = .ok (.bipush (-10), 2) := by decide +kernel
theorem d_MB_unused_49 : decode b_MB_unused 49 = .ok (.ireturn, 1) := by decide +kernel
theorem d_MB_reset_0 : decode b_MB_reset 0 = .ok (.iload_n 1, 1) := by decide +kernel
theorem d_MB_reset_1 : decode b_MB_reset 1 = .ok (.invokestatic 87, 3) := by decide +kernel
theorem d_MB_reset_4 : decode b_MB_reset 4 = .ok (.ifCond .ne 5, 3) := by decide +kernel
theorem d_MB_reset_7 : decode b_MB_reset 7 = .ok (.iconst (-1), 1) := by decide +kernel
theorem d_MB_reset_8 : decode b_MB_reset 8 = .ok (.ireturn, 1) := by decide +kernel
theorem d_MB_reset_9 : decode b_MB_reset 9 = .ok (.aload_n 0, 1) := by decide +kernel
theorem d_MB_reset_10 : decode b_MB_reset 10 = .ok (.iload_n 1, 1) := by decide +kernel
theorem d_MB_reset_11 : decode b_MB_reset 11 = .ok (.invokevirtual 125, 3) := by decide +kernel
theorem d_MB_reset_14 : decode b_MB_reset 14 = .ok (.aload_n 0, 1) := by decide +kernel
theorem d_MB_reset_15 : decode b_MB_reset 15 = .ok (.iload_n 1, 1) := by decide +kernel
theorem d_MB_reset_16 : decode b_MB_reset 16 = .ok (.invokevirtual 129, 3) := by decide +kernel
theorem d_MB_reset_19 : decode b_MB_reset 19 = .ok (.ireturn, 1) := by decide +kernel
theorem d_MB_endRules_0 : decode b_MB_endRules 0 = .ok (.iconst 0, 1) := by decide +kernel
theorem d_MB_endRules_1 : decode b_MB_endRules 1 = .ok (.istore_n 2, 1) := by decide +kernel
theorem d_MB_endRules_2 : decode b_MB_endRules 2 = .ok (.iload_n 2, 1) := by decide +kernel
theorem d_MB_endRules_3 : decode b_MB_endRules 3 = .ok (.aload_n 0, 1) := by decide +kernel
theorem d_MB_endRules_4 : decode b_MB_endRules 4 = .ok (.getfield 10, 3) := by decide +kernel
theorem d_MB_endRules_7 : decode b_MB_endRules 7 = .ok (.invokevirtual 56, 3) := by decide +kernel
theorem d_MB_endRules_10 : decode b_MB_endRules 10 = .ok (.if_icmp .ge 34, 3) := by decide +kernel
theorem d_MB_endRules_13 : decode b_MB_endRules 13 = .ok (.aload_n 0, 1) := by decide +kernel
theorem d_MB_endRules_14 : decode b_MB_endRules 14 = .ok (.getfield 10, 3) := by decide +kernel
theorem d_MB_endRules_17 : decode b_MB_endRules 17 = .ok (.iload_n 2, 1) := by decide +kernel
theorem d_MB_endRules_18 : decode b_MB_endRules 18 = .ok (.invokevirtual 70, 3) := by decide +kernel
theorem d_MB_endRules_21 : decode b_MB_endRules 21 = .ok (.checkcast 59, 3) := by decide +kernel
theorem d_MB_endRules_24 : decode b_MB_endRules 24 = .ok (.astore_n 3, 1) := by decide +kernel
theorem d_MB_endRules_25 : decode b_MB_endRules 25 = .ok (.aload_n 3, 1) := by decide +kernel
theorem d_MB_endRules_26 : decode b_MB_endRules 26 = .ok (.getfield 212, 3) := by decide +kernel
theorem d_MB_endRules_29 : decode b_MB_endRules 29 = .ok (.iload_n 1, 1) := by decide +kernel
theorem d_MB_endRules_30 : decode b_MB_endRules 30 = .ok (.if_icmp .ne 8, 3) := by decide +kernel
theorem d_MB_endRules_33 : decode b_MB_endRules 33 = .ok (.aload_n 3, 1) := by decide +kernel
theorem d_MB_endRules_34 : decode b_MB_endRules 34 = .ok (.iconst 0, 1) := by decide +kernel
theorem d_MB_endRules_35 : decode b_MB_endRules 35 = .ok (.putfield 74, 3) := by decide +kernel
theorem d_MB_endRules_38 : decode b_MB_endRules 38 = .ok (.iinc 2 1, 3) := by decide +kernel
theorem d_MB_endRules_41 : decode b_MB_endRules 41 = .ok (.goto (-39), 3) := by decide +kernel
theorem d_MB_endRules_44 : decode b_MB_endRules 44 = .ok (.return_, 1) := by decide +kernel
theorem d_MB_endInteractions_0 : decode b_MB_endInteractions 0 = .ok (.iconst 0, 1) := by decide +kernel
theorem d_MB_endInteractions_1 : decode b_MB_endInteractions 1 = .ok (.istore_n 2, 1) := by decide +kernel
theorem d_MB_endInteractions_2 : decode b_MB_endInteractions 2 = .ok (.iconst 0, 1) := by decide +kernel
theorem d_MB_endInteractions_3 : decode b_MB_endInteractions 3 = .ok (.istore_n 3, 1) := by decide +kernel
theorem d_MB_endInteractions_4 : decode b_MB_endInteractions 4 = .ok (.iload_n 3, 1) := by decide +kernel
theorem d_MB_endInteractions_5 : decode b_MB_endInteractions 5 = .ok (.aload_n 0, 1) := by decide +kernel
theorem d_MB_endInteractions_6 : decode b_MB_endInteractions 6 = .ok (.getfield 16, 3) := by decide +kernel
theorem d_MB_endInteractions_9 : decode b_MB_endInteractions 9 = .ok (.invokevirtual 56, 3) := by decide +kernel
theorem d_MB_endInteractions_12 : decode b_MB_endInteractions 12 = .ok (.if_icmp .ge 48, 3) := by decide +kernel
theorem d_MB_endInteractions_15 : decode b_MB_endInteractions 15 = .ok (.aload_n 0, 1) := by decide +kernel
theorem d_MB_endInteractions_16 : decode b_MB_endInteractions 16 = .ok (.getfield 16, 3) := by decide +kernel
theorem d_MB_endInteractions_19 : decode b_MB_endInteractions 19 = .ok (.iload_n 3, 1) := by decide +kernel
theorem d_MB_endInteractions_20 : decode b_MB_endInteractions 20 = .ok (.invokevirtual 70, 3) := by decide +kernel
theorem d_MB_endInteractions_23 : decode b_MB_endInteractions 23 = .ok (.checkcast 113, 3) := by decide +kernel
theorem d_MB_endInteractions_26 : decode b_MB_endInteractions 26 = .ok (.astore 4, 2) := by decide +kernel
theorem d_MB_endInteractions_28 : decode b_MB_endInteractions 28 = .ok (.aload 4, 2) := by decide +kernel
theorem d_MB_endInteractions_30 : decode b_MB_endInteractions 30 = .ok (.getfield 118, 3) := by decide +kernel
theorem d_MB_endInteractions_33 : decode b_MB_endInteractions 33 = .ok (.ifCond .eq 21, 3) := by decide +kernel
theorem d_MB_endInteractions_36 : decode b_MB_endInteractions 36 = .ok (.aload 4, 2) := by decide +kernel
theorem d_MB_endInteractions_38 : decode b_MB_endInteractions 38 = .ok (.getfield 119, 3) := by decide +kernel
theorem d_MB_endInteractions_41 : decode b_MB_endInteractions 41 = .ok (.iload_n 1, 1) := by decide +kernel
theorem d_MB_endInteractions_42 : decode b_MB_endInteractions 42 = .ok (.if_icmp .ne 12, 3) := by decide +kernel
theorem d_MB_endInteractions_45 : decode b_MB_endInteractions 45 = .ok (.aload 4, 2) := by decide +kernel
theorem d_MB_endInteractions_47 : decode b_MB_endInteractions 47 = .ok (.iconst 0, 1) := by decide +kernel
theorem d_MB_endInteractions_48 : decode b_MB_endInteractions 48 = .ok (.putfield 118, 3) := by decide +kernel
theorem d_MB_endInteractions_51 : decode b_MB_endInteractions 51 = .ok (.iinc 2 1, 3) := by decide +kernel
theorem d_MB_endInteractions_54 : decode b_MB_endInteractions 54 = .ok (.iinc 3 1, 3) := by decide +kernel
theorem d_MB_endInteractions_57 : decode b_MB_endInteractions 57 = .ok (.goto (-53), 3) := by decide +kernel
theorem d_MB_endInteractions_60 : decode b_MB_endInteractions 60 = .ok (.iload_n 2, 1) := by decide +kernel
theorem d_MB_endInteractions_61 : decode b_MB_endInteractions 61 = .ok (.ireturn, 1) := by decide +kernel
theorem d_MB_noted_0 : decode b_MB_noted 0 = .ok (.aload_n 0, 1) := by decide +kernel
theorem d_MB_noted_1 : decode b_MB_noted 1 = .ok (.iload_n 1, 1) := by decide +kernel
theorem d_MB_noted_2 : decode b_MB_noted 2 = .ok (.invokevirtual 133, 3) := by decide +kernel
theorem d_MB_noted_5 : decode b_MB_noted 5 = .ok (.ifCond .ne 7, 3) := by decide +kernel
theorem d_MB_noted_8 : decode b_MB_noted 8 = .ok (.ldc2_w 94, 3) := by decide +kernel
theorem d_MB_noted_11 : decode b_MB_noted 11 = .ok (.lreturn, 1) := by decide +kernel
theorem d_MB_noted_12 : decode b_MB_noted 12 = .ok (.aload_n 0, 1) := by decide +kernel
theorem d_MB_noted_13 : decode b_MB_noted 13 = .ok (.getfield 16, 3) := by decide +kernel
theorem d_MB_noted_16 : decode b_MB_noted 16 = .ok (.iload_n 1, 1) := by decide +kernel
theorem d_MB_noted_17 : decode b_MB_noted 17 = .ok (.invokevirtual 70, 3) := by decide +kernel
theorem d_MB_noted_20 : decode b_MB_noted 20 = .ok (.checkcast 113, 3) := by decide +kernel
theorem d_MB_noted_23 : decode b_MB_noted 23 = .ok (.astore_n 3, 1) := by decide +kernel
theorem d_MB_noted_24 : decode b_MB_noted 24 = .ok (.iload_n 2, 1) := by decide +kernel
theorem d_MB_noted_25 : decode b_MB_noted 25 = .ok (.tableswitch 121 0 9 #[55, 61, 67, 73, 79, 85, 91, 97, 106, 112], 55) := by decide +kernel
theorem d_MB_noted_80 : decode b_MB_noted 80 = .ok (.aload_n 3, 1) := by decide +kernel
theorem d_MB_noted_81 : decode b_MB_noted 81 = .ok (.getfield 119, 3) := by decide +kernel
theorem d_MB_noted_84 : decode b_MB_noted 84 = .ok (.i2l, 1) := by decide +kernel
theorem d_MB_noted_85 : decode b_MB_noted 85 = .ok (.lreturn, 1) := by decide +kernel
theorem d_MB_noted_86 : decode b_MB_noted 86 = .ok (.aload_n 3, 1) := by decide +kernel
theorem d_MB_noted_87 : decode b_MB_noted 87 = .ok (.getfield 136, 3) := by decide +kernel
theorem d_MB_noted_90 : decode b_MB_noted 90 = .ok (.i2l, 1) := by decide +kernel
theorem d_MB_noted_91 : decode b_MB_noted 91 = .ok (.lreturn, 1) := by decide +kernel
theorem d_MB_noted_92 : decode b_MB_noted 92 = .ok (.aload_n 3, 1) := by decide +kernel
theorem d_MB_noted_93 : decode b_MB_noted 93 = .ok (.getfield 139, 3) := by decide +kernel
theorem d_MB_noted_96 : decode b_MB_noted 96 = .ok (.i2l, 1) := by decide +kernel
theorem d_MB_noted_97 : decode b_MB_noted 97 = .ok (.lreturn, 1) := by decide +kernel
theorem d_MB_noted_98 : decode b_MB_noted 98 = .ok (.aload_n 3, 1) := by decide +kernel
theorem d_MB_noted_99 : decode b_MB_noted 99 = .ok (.getfield 142, 3) := by decide +kernel
theorem d_MB_noted_102 : decode b_MB_noted 102 = .ok (.i2l, 1) := by decide +kernel
theorem d_MB_noted_103 : decode b_MB_noted 103 = .ok (.lreturn, 1) := by decide +kernel
theorem d_MB_noted_104 : decode b_MB_noted 104 = .ok (.aload_n 3, 1) := by decide +kernel
theorem d_MB_noted_105 : decode b_MB_noted 105 = .ok (.getfield 145, 3) := by decide +kernel
theorem d_MB_noted_108 : decode b_MB_noted 108 = .ok (.i2l, 1) := by decide +kernel
theorem d_MB_noted_109 : decode b_MB_noted 109 = .ok (.lreturn, 1) := by decide +kernel
theorem d_MB_noted_110 : decode b_MB_noted 110 = .ok (.aload_n 3, 1) := by decide +kernel
theorem d_MB_noted_111 : decode b_MB_noted 111 = .ok (.getfield 148, 3) := by decide +kernel
theorem d_MB_noted_114 : decode b_MB_noted 114 = .ok (.i2l, 1) := by decide +kernel
theorem d_MB_noted_115 : decode b_MB_noted 115 = .ok (.lreturn, 1) := by decide +kernel
theorem d_MB_noted_116 : decode b_MB_noted 116 = .ok (.aload_n 3, 1) := by decide +kernel
theorem d_MB_noted_117 : decode b_MB_noted 117 = .ok (.getfield 151, 3) := by decide +kernel
theorem d_MB_noted_120 : decode b_MB_noted 120 = .ok (.i2l, 1) := by decide +kernel
theorem d_MB_noted_121 : decode b_MB_noted 121 = .ok (.lreturn, 1) := by decide +kernel
theorem d_MB_noted_122 : decode b_MB_noted 122 = .ok (.aload_n 3, 1) := by decide +kernel
theorem d_MB_noted_123 : decode b_MB_noted 123 = .ok (.getfield 115, 3) := by decide +kernel
theorem d_MB_noted_126 : decode b_MB_noted 126 = .ok (.invokestatic 90, 3) := by decide +kernel
theorem d_MB_noted_129 : decode b_MB_noted 129 = .ok (.i2l, 1) := by decide +kernel
theorem d_MB_noted_130 : decode b_MB_noted 130 = .ok (.lreturn, 1) := by decide +kernel
theorem d_MB_noted_131 : decode b_MB_noted 131 = .ok (.aload_n 3, 1) := by decide +kernel
theorem d_MB_noted_132 : decode b_MB_noted 132 = .ok (.getfield 154, 3) := by decide +kernel
theorem d_MB_noted_135 : decode b_MB_noted 135 = .ok (.i2l, 1) := by decide +kernel
theorem d_MB_noted_136 : decode b_MB_noted 136 = .ok (.lreturn, 1) := by decide +kernel
theorem d_MB_noted_137 : decode b_MB_noted 137 = .ok (.aload_n 3, 1) := by decide +kernel
theorem d_MB_noted_138 : decode b_MB_noted 138 = .ok (.getfield 118, 3) := by decide +kernel
theorem d_MB_noted_141 : decode b_MB_noted 141 = .ok (.invokestatic 90, 3) := by decide +kernel
theorem d_MB_noted_144 : decode b_MB_noted 144 = .ok (.i2l, 1) := by decide +kernel
theorem d_MB_noted_145 : decode b_MB_noted 145 = .ok (.lreturn, 1) := by decide +kernel
theorem d_MB_noted_146 : decode b_MB_noted 146 = .ok (.ldc2_w 94, 3) := by decide +kernel
theorem d_MB_noted_149 : decode b_MB_noted 149 = .ok (.lreturn, 1) := by decide +kernel
theorem d_MB_isInteraction_0 : decode b_MB_isInteraction 0 = .ok (.iload_n 1, 1) := by decide +kernel
theorem d_MB_isInteraction_1 : decode b_MB_isInteraction 1 = .ok (.iconst 0, 1) := by decide +kernel
theorem d_MB_isInteraction_2 : decode b_MB_isInteraction 2 = .ok (.aload_n 0, 1) := by decide +kernel
theorem d_MB_isInteraction_3 : decode b_MB_isInteraction 3 = .ok (.getfield 16, 3) := by decide +kernel
theorem d_MB_isInteraction_6 : decode b_MB_isInteraction 6 = .ok (.invokevirtual 56, 3) := by decide +kernel
theorem d_MB_isInteraction_9 : decode b_MB_isInteraction 9 = .ok (.iconst 1, 1) := by decide +kernel
theorem d_MB_isInteraction_10 : decode b_MB_isInteraction 10 = .ok (.isub, 1) := by decide +kernel
theorem d_MB_isInteraction_11 : decode b_MB_isInteraction 11 = .ok (.invokestatic 34, 3) := by decide +kernel
theorem d_MB_isInteraction_14 : decode b_MB_isInteraction 14 = .ok (.ireturn, 1) := by decide +kernel
theorem d_MB_answer_0 : decode b_MB_answer 0 = .ok (.aload_n 0, 1) := by decide +kernel
theorem d_MB_answer_1 : decode b_MB_answer 1 = .ok (.iload_n 1, 1) := by decide +kernel
theorem d_MB_answer_2 : decode b_MB_answer 2 = .ok (.invokevirtual 133, 3) := by decide +kernel
theorem d_MB_answer_5 : decode b_MB_answer 5 = .ok (.ifCond .eq 20, 3) := by decide +kernel
theorem d_MB_answer_8 : decode b_MB_answer 8 = .ok (.aload_n 0, 1) := by decide +kernel
theorem d_MB_answer_9 : decode b_MB_answer 9 = .ok (.getfield 16, 3) := by decide +kernel
theorem d_MB_answer_12 : decode b_MB_answer 12 = .ok (.iload_n 1, 1) := by decide +kernel
theorem d_MB_answer_13 : decode b_MB_answer 13 = .ok (.invokevirtual 70, 3) := by decide +kernel
theorem d_MB_answer_16 : decode b_MB_answer 16 = .ok (.checkcast 113, 3) := by decide +kernel
theorem d_MB_answer_19 : decode b_MB_answer 19 = .ok (.getfield 157, 3) := by decide +kernel
theorem d_MB_answer_22 : decode b_MB_answer 22 = .ok (.goto 6, 3) := by decide +kernel
theorem d_MB_answer_25 : decode b_MB_answer 25 = .ok (.ldc2_w 94, 3) := by decide +kernel
theorem d_MB_answer_28 : decode b_MB_answer 28 = .ok (.lreturn, 1) := by decide +kernel
theorem d_MB_about_0 : decode b_MB_about 0 = .ok (.aload_n 0, 1) := by decide +kernel
theorem d_MB_about_1 : decode b_MB_about 1 = .ok (.iload_n 1, 1) := by decide +kernel
theorem d_MB_about_2 : decode b_MB_about 2 = .ok (.invokevirtual 67, 3) := by decide +kernel
theorem d_MB_about_5 : decode b_MB_about 5 = .ok (.ifCond .ne 5, 3) := by decide +kernel
theorem d_MB_about_8 : decode b_MB_about 8 = .ok (.iconst (-1), 1) := by decide +kernel
theorem d_MB_about_9 : decode b_MB_about 9 = .ok (.ireturn, 1) := by decide +kernel
theorem d_MB_about_10 : decode b_MB_about 10 = .ok (.aload_n 0, 1) := by decide +kernel
theorem d_MB_about_11 : decode b_MB_about 11 = .ok (.getfield 10, 3) := by decide +kernel
theorem d_MB_about_14 : decode b_MB_about 14 = .ok (.iload_n 1, 1) := by decide +kernel
theorem d_MB_about_15 : decode b_MB_about 15 = .ok (.invokevirtual 70, 3) := by decide +kernel
theorem d_MB_about_18 : decode b_MB_about 18 = .ok (.checkcast 59, 3) := by decide +kernel
theorem d_MB_about_21 : decode b_MB_about 21 = .ok (.astore_n 3, 1) := by decide +kernel
theorem d_MB_about_22 : decode b_MB_about 22 = .ok (.iload_n 2, 1) := by decide +kernel
theorem d_MB_about_23 : decode b_MB_about 23 = .ok (.tableswitch 43 0 2 #[25, 30, 35], 25) := by decide +kernel
theorem d_MB_about_48 : decode b_MB_about 48 = .ok (.aload_n 3, 1) := by decide +kernel
theorem d_MB_about_49 : decode b_MB_about 49 = .ok (.getfield 81, 3) := by decide +kernel
theorem d_MB_about_52 : decode b_MB_about 52 = .ok (.ireturn, 1) := by decide +kernel
theorem d_MB_about_53 : decode b_MB_about 53 = .ok (.aload_n 3, 1) := by decide +kernel
theorem d_MB_about_54 : decode b_MB_about 54 = .ok (.getfield 122, 3) := by decide +kernel
theorem d_MB_about_57 : decode b_MB_about 57 = .ok (.ireturn, 1) := by decide +kernel
theorem d_MB_about_58 : decode b_MB_about 58 = .ok (.aload_n 3, 1) := by decide +kernel
theorem d_MB_about_59 : decode b_MB_about 59 = .ok (.getfield 74, 3) := by decide +kernel
theorem d_MB_about_62 : decode b_MB_about 62 = .ok (.invokestatic 90, 3) := by decide +kernel
theorem d_MB_about_65 : decode b_MB_about 65 = .ok (.ireturn, 1) := by decide +kernel
theorem d_MB_about_66 : decode b_MB_about 66 = .ok (.iconst (-1), 1) := by decide +kernel
theorem d_MB_about_67 : decode b_MB_about 67 = .ok (.ireturn, 1) := by decide +kernel
theorem d_MB_count_0 : decode b_MB_count 0 = .ok (.iload_n 1, 1) := by decide +kernel
theorem d_MB_count_1 : decode b_MB_count 1 = .ok (.tableswitch 80 0 5 #[39, 47, 53, 59, 67, 72], 39) := by decide +kernel
theorem d_MB_count_40 : decode b_MB_count 40 = .ok (.aload_n 0, 1) := by decide +kernel
theorem d_MB_count_41 : decode b_MB_count 41 = .ok (.getfield 16, 3) := by decide +kernel
theorem d_MB_count_44 : decode b_MB_count 44 = .ok (.invokevirtual 56, 3) := by decide +kernel
theorem d_MB_count_47 : decode b_MB_count 47 = .ok (.ireturn, 1) := by decide +kernel
theorem d_MB_count_48 : decode b_MB_count 48 = .ok (.aload_n 0, 1) := by decide +kernel
theorem d_MB_count_49 : decode b_MB_count 49 = .ok (.iconst 0, 1) := by decide +kernel
theorem d_MB_count_50 : decode b_MB_count 50 = .ok (.invokevirtual 161, 3) := by decide +kernel
theorem d_MB_count_53 : decode b_MB_count 53 = .ok (.ireturn, 1) := by decide +kernel
theorem d_MB_count_54 : decode b_MB_count 54 = .ok (.aload_n 0, 1) := by decide +kernel
theorem d_MB_count_55 : decode b_MB_count 55 = .ok (.iconst 1, 1) := by decide +kernel
theorem d_MB_count_56 : decode b_MB_count 56 = .ok (.invokevirtual 161, 3) := by decide +kernel
theorem d_MB_count_59 : decode b_MB_count 59 = .ok (.ireturn, 1) := by decide +kernel
theorem d_MB_count_60 : decode b_MB_count 60 = .ok (.aload_n 0, 1) := by decide +kernel
theorem d_MB_count_61 : decode b_MB_count 61 = .ok (.getfield 10, 3) := by decide +kernel
theorem d_MB_count_64 : decode b_MB_count 64 = .ok (.invokevirtual 56, 3) := by decide +kernel
theorem d_MB_count_67 : decode b_MB_count 67 = .ok (.ireturn, 1) := by decide +kernel
theorem d_MB_count_68 : decode b_MB_count 68 = .ok (.aload_n 0, 1) := by decide +kernel
theorem d_MB_count_69 : decode b_MB_count 69 = .ok (.invokevirtual 164, 3) := by decide +kernel
theorem d_MB_count_72 : decode b_MB_count 72 = .ok (.ireturn, 1) := by decide +kernel
theorem d_MB_count_73 : decode b_MB_count 73 = .ok (.aload_n 0, 1) := by decide +kernel
theorem d_MB_count_74 : decode b_MB_count 74 = .ok (.getfield 26, 3) := by decide +kernel
theorem d_MB_count_77 : decode b_MB_count 77 = .ok (.getfield 38, 3) := by decide +kernel
theorem d_MB_count_80 : decode b_MB_count 80 = .ok (.ireturn, 1) := by decide +kernel
theorem d_MB_count_81 : decode b_MB_count 81 = .ok (.iconst (-1), 1) := by decide +kernel
theorem d_MB_count_82 : decode b_MB_count 82 = .ok (.ireturn, 1) := by decide +kernel
theorem d_MB_countLiveInteractions_0 : decode b_MB_countLiveInteractions 0 = .ok (.iconst 0, 1) := by decide +kernel
theorem d_MB_countLiveInteractions_1 : decode b_MB_countLiveInteractions 1 = .ok (.istore_n 2, 1) := by decide +kernel
theorem d_MB_countLiveInteractions_2 : decode b_MB_countLiveInteractions 2 = .ok (.iconst 0, 1) := by decide +kernel
theorem d_MB_countLiveInteractions_3 : decode b_MB_countLiveInteractions 3 = .ok (.istore_n 3, 1) := by decide +kernel
theorem d_MB_countLiveInteractions_4 : decode b_MB_countLiveInteractions 4 = .ok (.iload_n 3, 1) := by decide +kernel
theorem d_MB_countLiveInteractions_5 : decode b_MB_countLiveInteractions 5 = .ok (.aload_n 0, 1) := by decide +kernel
theorem d_MB_countLiveInteractions_6 : decode b_MB_countLiveInteractions 6 = .ok (.getfield 16, 3) := by decide +kernel
theorem d_MB_countLiveInteractions_9 : decode b_MB_countLiveInteractions 9 = .ok (.invokevirtual 56, 3) := by decide +kernel
theorem d_MB_countLiveInteractions_12 : decode b_MB_countLiveInteractions 12 = .ok (.if_icmp .ge 45, 3) := by decide +kernel
theorem d_MB_countLiveInteractions_15 : decode b_MB_countLiveInteractions 15 = .ok (.aload_n 0, 1) := by decide +kernel
theorem d_MB_countLiveInteractions_16 : decode b_MB_countLiveInteractions 16 = .ok (.getfield 16, 3) := by decide +kernel
theorem d_MB_countLiveInteractions_19 : decode b_MB_countLiveInteractions 19 = .ok (.iload_n 3, 1) := by decide +kernel
theorem d_MB_countLiveInteractions_20 : decode b_MB_countLiveInteractions 20 = .ok (.invokevirtual 70, 3) := by decide +kernel
theorem d_MB_countLiveInteractions_23 : decode b_MB_countLiveInteractions 23 = .ok (.checkcast 113, 3) := by decide +kernel
theorem d_MB_countLiveInteractions_26 : decode b_MB_countLiveInteractions 26 = .ok (.astore 4, 2) := by decide +kernel
theorem d_MB_countLiveInteractions_28 : decode b_MB_countLiveInteractions 28 = .ok (.aload 4, 2) := by decide +kernel
theorem d_MB_countLiveInteractions_30 : decode b_MB_countLiveInteractions 30 = .ok (.getfield 118, 3) := by decide +kernel
theorem d_MB_countLiveInteractions_33 : decode b_MB_countLiveInteractions 33 = .ok (.ifCond .eq 18, 3) := by decide +kernel
theorem d_MB_countLiveInteractions_36 : decode b_MB_countLiveInteractions 36 = .ok (.aload 4, 2) := by decide +kernel
theorem d_MB_countLiveInteractions_38 : decode b_MB_countLiveInteractions 38 = .ok (.getfield 115, 3) := by decide +kernel
theorem d_MB_countLiveInteractions_41 : decode b_MB_countLiveInteractions 41 = .ok (.ifCond .ne 7, 3) := by decide +kernel
theorem d_MB_countLiveInteractions_44 : decode b_MB_countLiveInteractions 44 = .ok (.iload_n 1, 1) := by decide +kernel
theorem d_MB_countLiveInteractions_45 : decode b_MB_countLiveInteractions 45 = .ok (.ifCond .ne 6, 3) := by decide +kernel
theorem d_MB_countLiveInteractions_48 : decode b_MB_countLiveInteractions 48 = .ok (.iinc 2 1, 3) := by decide +kernel
theorem d_MB_countLiveInteractions_51 : decode b_MB_countLiveInteractions 51 = .ok (.iinc 3 1, 3) := by decide +kernel
theorem d_MB_countLiveInteractions_54 : decode b_MB_countLiveInteractions 54 = .ok (.goto (-50), 3) := by decide +kernel
theorem d_MB_countLiveInteractions_57 : decode b_MB_countLiveInteractions 57 = .ok (.iload_n 2, 1) := by decide +kernel
theorem d_MB_countLiveInteractions_58 : decode b_MB_countLiveInteractions 58 = .ok (.ireturn, 1) := by decide +kernel
theorem d_MB_countLiveRules_0 : decode b_MB_countLiveRules 0 = .ok (.iconst 0, 1) := by decide +kernel
theorem d_MB_countLiveRules_1 : decode b_MB_countLiveRules 1 = .ok (.istore_n 1, 1) := by decide +kernel
theorem d_MB_countLiveRules_2 : decode b_MB_countLiveRules 2 = .ok (.iconst 0, 1) := by decide +kernel
theorem d_MB_countLiveRules_3 : decode b_MB_countLiveRules 3 = .ok (.istore_n 2, 1) := by decide +kernel
theorem d_MB_countLiveRules_4 : decode b_MB_countLiveRules 4 = .ok (.iload_n 2, 1) := by decide +kernel
theorem d_MB_countLiveRules_5 : decode b_MB_countLiveRules 5 = .ok (.aload_n 0, 1) := by decide +kernel
theorem d_MB_countLiveRules_6 : decode b_MB_countLiveRules 6 = .ok (.getfield 10, 3) := by decide +kernel
theorem d_MB_countLiveRules_9 : decode b_MB_countLiveRules 9 = .ok (.invokevirtual 56, 3) := by decide +kernel
theorem d_MB_countLiveRules_12 : decode b_MB_countLiveRules 12 = .ok (.if_icmp .ge 29, 3) := by decide +kernel
theorem d_MB_countLiveRules_15 : decode b_MB_countLiveRules 15 = .ok (.aload_n 0, 1) := by decide +kernel
theorem d_MB_countLiveRules_16 : decode b_MB_countLiveRules 16 = .ok (.getfield 10, 3) := by decide +kernel
theorem d_MB_countLiveRules_19 : decode b_MB_countLiveRules 19 = .ok (.iload_n 2, 1) := by decide +kernel
theorem d_MB_countLiveRules_20 : decode b_MB_countLiveRules 20 = .ok (.invokevirtual 70, 3) := by decide +kernel
theorem d_MB_countLiveRules_23 : decode b_MB_countLiveRules 23 = .ok (.checkcast 59, 3) := by decide +kernel
theorem d_MB_countLiveRules_26 : decode b_MB_countLiveRules 26 = .ok (.getfield 74, 3) := by decide +kernel
theorem d_MB_countLiveRules_29 : decode b_MB_countLiveRules 29 = .ok (.ifCond .eq 6, 3) := by decide +kernel
theorem d_MB_countLiveRules_32 : decode b_MB_countLiveRules 32 = .ok (.iinc 1 1, 3) := by decide +kernel
theorem d_MB_countLiveRules_35 : decode b_MB_countLiveRules 35 = .ok (.iinc 2 1, 3) := by decide +kernel
theorem d_MB_countLiveRules_38 : decode b_MB_countLiveRules 38 = .ok (.goto (-34), 3) := by decide +kernel
theorem d_MB_countLiveRules_41 : decode b_MB_countLiveRules 41 = .ok (.iload_n 1, 1) := by decide +kernel
theorem d_MB_countLiveRules_42 : decode b_MB_countLiveRules 42 = .ok (.ireturn, 1) := by decide +kernel
end
section
theorem d_MM_init_0 : decode b_MM_init 0 = .ok (.aload_n 0, 1) := by decide +kernel
theorem d_MM_init_1 : decode b_MM_init 1 = .ok (.invokespecial 1, 3) := by decide +kernel
theorem d_MM_init_4 : decode b_MM_init 4 = .ok (.aload_n 0, 1) := by decide +kernel
theorem d_MM_init_5 : decode b_MM_init 5 = .ok (.iconst 3, 1) := by decide +kernel
theorem d_MM_init_6 : decode b_MM_init 6 = .ok (.newarray .int, 2) := by decide +kernel
theorem d_MM_init_8 : decode b_MM_init 8 = .ok (.putfield 7, 3) := by decide +kernel
theorem d_MM_init_11 : decode b_MM_init 11 = .ok (.aload_n 0, 1) := by decide +kernel
theorem d_MM_init_12 : decode b_MM_init 12 = .ok (.iconst 3, 1) := by decide +kernel
theorem d_MM_init_13 : decode b_MM_init 13 = .ok (.newarray .int, 2) := by decide +kernel
theorem d_MM_init_15 : decode b_MM_init 15 = .ok (.putfield 13, 3) := by decide +kernel
theorem d_MM_init_18 : decode b_MM_init 18 = .ok (.aload_n 0, 1) := by decide +kernel
theorem d_MM_init_19 : decode b_MM_init 19 = .ok (.bipush 24, 2) := by decide +kernel
theorem d_MM_init_21 : decode b_MM_init 21 = .ok (.newarray .int, 2) := by decide +kernel
theorem d_MM_init_23 : decode b_MM_init 23 = .ok (.putfield 16, 3) := by decide +kernel
theorem d_MM_init_26 : decode b_MM_init 26 = .ok (.aload_n 0, 1) := by decide +kernel
theorem d_MM_init_27 : decode b_MM_init 27 = .ok (.bipush 24, 2) := by decide +kernel
theorem d_MM_init_29 : decode b_MM_init 29 = .ok (.newarray .int, 2) := by decide +kernel
theorem d_MM_init_31 : decode b_MM_init 31 = .ok (.putfield 19, 3) := by decide +kernel
theorem d_MM_init_34 : decode b_MM_init 34 = .ok (.aload_n 0, 1) := by decide +kernel
theorem d_MM_init_35 : decode b_MM_init 35 = .ok (.bipush 24, 2) := by decide +kernel
theorem d_MM_init_37 : decode b_MM_init 37 = .ok (.newarray .boolean, 2) := by decide +kernel
theorem d_MM_init_39 : decode b_MM_init 39 = .ok (.putfield 22, 3) := by decide +kernel
theorem d_MM_init_42 : decode b_MM_init 42 = .ok (.aload_n 0, 1) := by decide +kernel
theorem d_MM_init_43 : decode b_MM_init 43 = .ok (.bipush 72, 2) := by decide +kernel
theorem d_MM_init_45 : decode b_MM_init 45 = .ok (.newarray .int, 2) := by decide +kernel
theorem d_MM_init_47 : decode b_MM_init 47 = .ok (.putfield 26, 3) := by decide +kernel
theorem d_MM_init_50 : decode b_MM_init 50 = .ok (.aload_n 0, 1) := by decide +kernel
theorem d_MM_init_51 : decode b_MM_init 51 = .ok (.bipush 72, 2) := by decide +kernel
theorem d_MM_init_53 : decode b_MM_init 53 = .ok (.newarray .int, 2) := by decide +kernel
theorem d_MM_init_55 : decode b_MM_init 55 = .ok (.putfield 29, 3) := by decide +kernel
theorem d_MM_init_58 : decode b_MM_init 58 = .ok (.aload_n 0, 1) := by decide +kernel
theorem d_MM_init_59 : decode b_MM_init 59 = .ok (.bipush 96, 2) := by decide +kernel
theorem d_MM_init_61 : decode b_MM_init 61 = .ok (.newarray .int, 2) := by decide +kernel
theorem d_MM_init_63 : decode b_MM_init 63 = .ok (.putfield 32, 3) := by decide +kernel
theorem d_MM_init_66 : decode b_MM_init 66 = .ok (.aload_n 0, 1) := by decide +kernel
theorem d_MM_init_67 : decode b_MM_init 67 = .ok (.bipush 96, 2) := by decide +kernel
theorem d_MM_init_69 : decode b_MM_init 69 = .ok (.newarray .int, 2) := by decide +kernel
theorem d_MM_init_71 : decode b_MM_init 71 = .ok (.putfield 35, 3) := by decide +kernel
theorem d_MM_init_74 : decode b_MM_init 74 = .ok (.aload_n 0, 1) := by decide +kernel
theorem d_MM_init_75 : decode b_MM_init 75 = .ok (.bipush 24, 2) := by decide +kernel
theorem d_MM_init_77 : decode b_MM_init 77 = .ok (.newarray .int, 2) := by decide +kernel
theorem d_MM_init_79 : decode b_MM_init 79 = .ok (.putfield 38, 3) := by decide +kernel
theorem d_MM_init_82 : decode b_MM_init 82 = .ok (.aload_n 0, 1) := by decide +kernel
theorem d_MM_init_83 : decode b_MM_init 83 = .ok (.iconst 4, 1) := by decide +kernel
theorem d_MM_init_84 : decode b_MM_init 84 = .ok (.newarray .boolean, 2) := by decide +kernel
theorem d_MM_init_86 : decode b_MM_init 86 = .ok (.putfield 41, 3) := by decide +kernel
theorem d_MM_init_89 : decode b_MM_init 89 = .ok (.aload_n 0, 1) := by decide +kernel
theorem d_MM_init_90 : decode b_MM_init 90 = .ok (.sipush 160, 3) := by decide +kernel
theorem d_MM_init_93 : decode b_MM_init 93 = .ok (.newarray .int, 2) := by decide +kernel
theorem d_MM_init_95 : decode b_MM_init 95 = .ok (.putfield 44, 3) := by decide +kernel
theorem d_MM_init_98 : decode b_MM_init 98 = .ok (.aload_n 0, 1) := by decide +kernel
theorem d_MM_init_99 : decode b_MM_init 99 = .ok (.sipush 160, 3) := by decide +kernel
theorem d_MM_init_102 : decode b_MM_init 102 = .ok (.newarray .int, 2) := by decide +kernel
theorem d_MM_init_104 : decode b_MM_init 104 = .ok (.putfield 47, 3) := by decide +kernel
theorem d_MM_init_107 : decode b_MM_init 107 = .ok (.aload_n 0, 1) := by decide +kernel
theorem d_MM_init_108 : decode b_MM_init 108 = .ok (.sipush 480, 3) := by decide +kernel
theorem d_MM_init_111 : decode b_MM_init 111 = .ok (.newarray .int, 2) := by decide +kernel
theorem d_MM_init_113 : decode b_MM_init 113 = .ok (.putfield 50, 3) := by decide +kernel
theorem d_MM_init_116 : decode b_MM_init 116 = .ok (.aload_n 0, 1) := by decide +kernel
theorem d_MM_init_117 : decode b_MM_init 117 = .ok (.sipush 160, 3) := by decide +kernel
theorem d_MM_init_120 : decode b_MM_init 120 = .ok (.newarray .int, 2) := by decide +kernel
theorem d_MM_init_122 : decode b_MM_init 122 = .ok (.putfield 53, 3) := by decide +kernel
theorem d_MM_init_125 : decode b_MM_init 125 = .ok (.aload_n 0, 1) := by decide +kernel
theorem d_MM_init_126 : decode b_MM_init 126 = .ok (.sipush 160, 3) := by decide +kernel
theorem d_MM_init_129 : decode b_MM_init 129 = .ok (.newarray .int, 2) := by decide +kernel
theorem d_MM_init_131 : decode b_MM_init 131 = .ok (.putfield 56, 3) := by decide +kernel
theorem d_MM_init_134 : decode b_MM_init 134 = .ok (.aload_n 0, 1) := by decide +kernel
theorem d_MM_init_135 : decode b_MM_init 135 = .ok (.sipush 160, 3) := by decide +kernel
theorem d_MM_init_138 : decode b_MM_init 138 = .ok (.newarray .int, 2) := by decide +kernel
theorem d_MM_init_140 : decode b_MM_init 140 = .ok (.putfield 59, 3) := by decide +kernel
theorem d_MM_init_143 : decode b_MM_init 143 = .ok (.aload_n 0, 1) := by decide +kernel
theorem d_MM_init_144 : decode b_MM_init 144 = .ok (.sipush 160, 3) := by decide +kernel
theorem d_MM_init_147 : decode b_MM_init 147 = .ok (.newarray .long, 2) := by decide +kernel
theorem d_MM_init_149 : decode b_MM_init 149 = .ok (.putfield 62, 3) := by decide +kernel
theorem d_MM_init_152 : decode b_MM_init 152 = .ok (.aload_n 0, 1) := by decide +kernel
theorem d_MM_init_153 : decode b_MM_init 153 = .ok (.sipush 160, 3) := by decide +kernel
theorem d_MM_init_156 : decode b_MM_init 156 = .ok (.newarray .boolean, 2) := by decide +kernel
theorem d_MM_init_158 : decode b_MM_init 158 = .ok (.putfield 66, 3) := by decide +kernel
theorem d_MM_init_161 : decode b_MM_init 161 = .ok (.aload_n 0, 1) := by decide +kernel
theorem d_MM_init_162 : decode b_MM_init 162 = .ok (.sipush 160, 3) := by decide +kernel
theorem d_MM_init_165 : decode b_MM_init 165 = .ok (.newarray .boolean, 2) := by decide +kernel
theorem d_MM_init_167 : decode b_MM_init 167 = .ok (.putfield 69, 3) := by decide +kernel
theorem d_MM_init_170 : decode b_MM_init 170 = .ok (.aload_n 0, 1) := by decide +kernel
theorem d_MM_init_171 : decode b_MM_init 171 = .ok (.iconst (-1), 1) := by decide +kernel
theorem d_MM_init_172 : decode b_MM_init 172 = .ok (.putfield 72, 3) := by decide +kernel
theorem d_MM_init_175 : decode b_MM_init 175 = .ok (.return_, 1) := by decide +kernel
theorem d_MM_matcher_0 : decode b_MM_matcher 0 = .ok (.iload_n 1, 1) := by decide +kernel
theorem d_MM_matcher_1 : decode b_MM_matcher 1 = .ok (.ifCond .lt 8, 3) := by decide +kernel
theorem d_MM_matcher_4 : decode b_MM_matcher 4 = .ok (.iload_n 1, 1) := by decide +kernel
theorem d_MM_matcher_5 : decode b_MM_matcher 5 = .ok (.iconst 5, 1) := by decide +kernel
theorem d_MM_matcher_6 : decode b_MM_matcher 6 = .ok (.if_icmp .le 5, 3) := by decide +kernel
theorem d_MM_matcher_9 : decode b_MM_matcher 9 = .ok (.iconst (-1), 1) := by decide +kernel
theorem d_MM_matcher_10 : decode b_MM_matcher 10 = .ok (.ireturn, 1) := by decide +kernel
theorem d_MM_matcher_11 : decode b_MM_matcher 11 = .ok (.aload_n 0, 1) := by decide +kernel
theorem d_MM_matcher_12 : decode b_MM_matcher 12 = .ok (.getfield 76, 3) := by decide +kernel
theorem d_MM_matcher_15 : decode b_MM_matcher 15 = .ok (.iconst 3, 1) := by decide +kernel
theorem d_MM_matcher_16 : decode b_MM_matcher 16 = .ok (.if_icmp .ne 6, 3) := by decide +kernel
theorem d_MM_matcher_19 : decode b_MM_matcher 19 = .ok (.bipush (-2), 2) := by decide +kernel
theorem d_MM_matcher_21 : decode b_MM_matcher 21 = .ok (.ireturn, 1) := by decide +kernel
theorem d_MM_matcher_22 : decode b_MM_matcher 22 = .ok (.aload_n 0, 1) := by decide +kernel
theorem d_MM_matcher_23 : decode b_MM_matcher 23 = .ok (.getfield 7, 3) := by decide +kernel
theorem d_MM_matcher_26 : decode b_MM_matcher 26 = .ok (.aload_n 0, 1) := by decide +kernel
theorem d_MM_matcher_27 : decode b_MM_matcher 27 = .ok (.getfield 76, 3) := by decide +kernel
theorem d_MM_matcher_30 : decode b_MM_matcher 30 = .ok (.iload_n 1, 1) := by decide +kernel
theorem d_MM_matcher_31 : decode b_MM_matcher 31 = .ok (.iastore, 1) := by decide +kernel
theorem d_MM_matcher_32 : decode b_MM_matcher 32 = .ok (.aload_n 0, 1) := by decide +kernel
theorem d_MM_matcher_33 : decode b_MM_matcher 33 = .ok (.getfield 13, 3) := by decide +kernel
theorem d_MM_matcher_36 : decode b_MM_matcher 36 = .ok (.aload_n 0, 1) := by decide +kernel
theorem d_MM_matcher_37 : decode b_MM_matcher 37 = .ok (.getfield 76, 3) := by decide +kernel
theorem d_MM_matcher_40 : decode b_MM_matcher 40 = .ok (.iload_n 2, 1) := by decide +kernel
theorem d_MM_matcher_41 : decode b_MM_matcher 41 = .ok (.iastore, 1) := by decide +kernel
theorem d_MM_matcher_42 : decode b_MM_matcher 42 = .ok (.aload_n 0, 1) := by decide +kernel
theorem d_MM_matcher_43 : decode b_MM_matcher 43 = .ok (.dup, 1) := by decide +kernel
theorem d_MM_matcher_44 : decode b_MM_matcher 44 = .ok (.getfield 76, 3) := by decide +kernel
theorem d_MM_matcher_47 : decode b_MM_matcher 47 = .ok (.iconst 1, 1) := by decide +kernel
theorem d_MM_matcher_48 : decode b_MM_matcher 48 = .ok (.iadd, 1) := by decide +kernel
theorem d_MM_matcher_49 : decode b_MM_matcher 49 = .ok (.putfield 76, 3) := by decide +kernel
theorem d_MM_matcher_52 : decode b_MM_matcher 52 = .ok (.aload_n 0, 1) := by decide +kernel
theorem d_MM_matcher_53 : decode b_MM_matcher 53 = .ok (.getfield 76, 3) := by decide +kernel
theorem d_MM_matcher_56 : decode b_MM_matcher 56 = .ok (.ireturn, 1) := by decide +kernel
theorem d_MM_drop_0 : decode b_MM_drop 0 = .ok (.aload_n 0, 1) := by decide +kernel
theorem d_MM_drop_1 : decode b_MM_drop 1 = .ok (.iconst 0, 1) := by decide +kernel
theorem d_MM_drop_2 : decode b_MM_drop 2 = .ok (.putfield 76, 3) := by decide +kernel
theorem d_MM_drop_5 : decode b_MM_drop 5 = .ok (.return_, 1) := by decide +kernel
theorem d_MM_rule_0 : decode b_MM_rule 0 = .ok (.iload_n 1, 1) := by decide +kernel
theorem d_MM_rule_1 : decode b_MM_rule 1 = .ok (.iload_n 2, 1) := by decide +kernel
theorem d_MM_rule_2 : decode b_MM_rule 2 = .ok (.invokestatic 79, 3) := by decide +kernel
theorem d_MM_rule_5 : decode b_MM_rule 5 = .ok (.ifCond .ne 13, 3) := by decide +kernel
theorem d_MM_rule_8 : decode b_MM_rule 8 = .ok (.aload_n 0, 1) := by decide +kernel
theorem d_MM_rule_9 : decode b_MM_rule 9 = .ok (.getfield 76, 3) := by decide +kernel
theorem d_MM_rule_12 : decode b_MM_rule 12 = .ok (.iload_n 2, 1) := by decide +kernel
theorem d_MM_rule_13 : decode b_MM_rule 13 = .ok (.iconst 4, 1) := by decide +kernel
theorem d_MM_rule_14 : decode b_MM_rule 14 = .ok (.irem, 1) := by decide +kernel
theorem d_MM_rule_15 : decode b_MM_rule 15 = .ok (.if_icmp .eq 5, 3) := by decide +kernel
theorem d_MM_rule_18 : decode b_MM_rule 18 = .ok (.iconst (-1), 1) := by decide +kernel
theorem d_MM_rule_19 : decode b_MM_rule 19 = .ok (.ireturn, 1) := by decide +kernel
theorem d_MM_rule_20 : decode b_MM_rule 20 = .ok (.aload_n 0, 1) := by decide +kernel
theorem d_MM_rule_21 : decode b_MM_rule 21 = .ok (.getfield 83, 3) := by decide +kernel
theorem d_MM_rule_24 : decode b_MM_rule 24 = .ok (.bipush 24, 2) := by decide +kernel
theorem d_MM_rule_26 : decode b_MM_rule 26 = .ok (.if_icmp .ne 6, 3) := by decide +kernel
theorem d_MM_rule_29 : decode b_MM_rule 29 = .ok (.bipush (-2), 2) := by decide +kernel
theorem d_MM_rule_31 : decode b_MM_rule 31 = .ok (.ireturn, 1) := by decide +kernel
theorem d_MM_rule_32 : decode b_MM_rule 32 = .ok (.aload_n 0, 1) := by decide +kernel
theorem d_MM_rule_33 : decode b_MM_rule 33 = .ok (.getfield 16, 3) := by decide +kernel
theorem d_MM_rule_36 : decode b_MM_rule 36 = .ok (.aload_n 0, 1) := by decide +kernel
theorem d_MM_rule_37 : decode b_MM_rule 37 = .ok (.getfield 83, 3) := by decide +kernel
theorem d_MM_rule_40 : decode b_MM_rule 40 = .ok (.iload_n 1, 1) := by decide +kernel
theorem d_MM_rule_41 : decode b_MM_rule 41 = .ok (.iastore, 1) := by decide +kernel
theorem d_MM_rule_42 : decode b_MM_rule 42 = .ok (.aload_n 0, 1) := by decide +kernel
theorem d_MM_rule_43 : decode b_MM_rule 43 = .ok (.getfield 19, 3) := by decide +kernel
theorem d_MM_rule_46 : decode b_MM_rule 46 = .ok (.aload_n 0, 1) := by decide +kernel
theorem d_MM_rule_47 : decode b_MM_rule 47 = .ok (.getfield 83, 3) := by decide +kernel
theorem d_MM_rule_50 : decode b_MM_rule 50 = .ok (.iload_n 2, 1) := by decide +kernel
theorem d_MM_rule_51 : decode b_MM_rule 51 = .ok (.iastore, 1) := by decide +kernel
theorem d_MM_rule_52 : decode b_MM_rule 52 = .ok (.aload_n 0, 1) := by decide +kernel
theorem d_MM_rule_53 : decode b_MM_rule 53 = .ok (.getfield 22, 3) := by decide +kernel
theorem d_MM_rule_56 : decode b_MM_rule 56 = .ok (.aload_n 0, 1) := by decide +kernel
theorem d_MM_rule_57 : decode b_MM_rule 57 = .ok (.getfield 83, 3) := by decide +kernel
theorem d_MM_rule_60 : decode b_MM_rule 60 = .ok (.iconst 1, 1) := by decide +kernel
theorem d_MM_rule_61 : decode b_MM_rule 61 = .ok (.bastore, 1) := by decide +kernel
theorem d_MM_rule_62 : decode b_MM_rule 62 = .ok (.iconst 0, 1) := by decide +kernel
theorem d_MM_rule_63 : decode b_MM_rule 63 = .ok (.istore_n 3, 1) := by decide +kernel
theorem d_MM_rule_64 : decode b_MM_rule 64 = .ok (.iload_n 3, 1) := by decide +kernel
theorem d_MM_rule_65 : decode b_MM_rule 65 = .ok (.aload_n 0, 1) := by decide +kernel
theorem d_MM_rule_66 : decode b_MM_rule 66 = .ok (.getfield 76, 3) := by decide +kernel
theorem d_MM_rule_69 : decode b_MM_rule 69 = .ok (.if_icmp .ge 47, 3) := by decide +kernel
theorem d_MM_rule_72 : decode b_MM_rule 72 = .ok (.aload_n 0, 1) := by decide +kernel
theorem d_MM_rule_73 : decode b_MM_rule 73 = .ok (.getfield 26, 3) := by decide +kernel
theorem d_MM_rule_76 : decode b_MM_rule 76 = .ok (.iconst 3, 1) := by decide +kernel
theorem d_MM_rule_77 : decode b_MM_rule 77 = .ok (.aload_n 0, 1) := by decide +kernel
theorem d_MM_rule_78 : decode b_MM_rule 78 = .ok (.getfield 83, 3) := by decide +kernel
theorem d_MM_rule_81 : decode b_MM_rule 81 = .ok (.imul, 1) := by decide +kernel
theorem d_MM_rule_82 : decode b_MM_rule 82 = .ok (.iload_n 3, 1) := by decide +kernel
theorem d_MM_rule_83 : decode b_MM_rule 83 = .ok (.iadd, 1) := by decide +kernel
theorem d_MM_rule_84 : decode b_MM_rule 84 = .ok (.aload_n 0, 1) := by decide +kernel
theorem d_MM_rule_85 : decode b_MM_rule 85 = .ok (.getfield 7, 3) := by decide +kernel
theorem d_MM_rule_88 : decode b_MM_rule 88 = .ok (.iload_n 3, 1) := by decide +kernel
theorem d_MM_rule_89 : decode b_MM_rule 89 = .ok (.iaload, 1) := by decide +kernel
theorem d_MM_rule_90 : decode b_MM_rule 90 = .ok (.iastore, 1) := by decide +kernel
theorem d_MM_rule_91 : decode b_MM_rule 91 = .ok (.aload_n 0, 1) := by decide +kernel
theorem d_MM_rule_92 : decode b_MM_rule 92 = .ok (.getfield 29, 3) := by decide +kernel
theorem d_MM_rule_95 : decode b_MM_rule 95 = .ok (.iconst 3, 1) := by decide +kernel
theorem d_MM_rule_96 : decode b_MM_rule 96 = .ok (.aload_n 0, 1) := by decide +kernel
theorem d_MM_rule_97 : decode b_MM_rule 97 = .ok (.getfield 83, 3) := by decide +kernel
theorem d_MM_rule_100 : decode b_MM_rule 100 = .ok (.imul, 1) := by decide +kernel
theorem d_MM_rule_101 : decode b_MM_rule 101 = .ok (.iload_n 3, 1) := by decide +kernel
theorem d_MM_rule_102 : decode b_MM_rule 102 = .ok (.iadd, 1) := by decide +kernel
theorem d_MM_rule_103 : decode b_MM_rule 103 = .ok (.aload_n 0, 1) := by decide +kernel
theorem d_MM_rule_104 : decode b_MM_rule 104 = .ok (.getfield 13, 3) := by decide +kernel
theorem d_MM_rule_107 : decode b_MM_rule 107 = .ok (.iload_n 3, 1) := by decide +kernel
theorem d_MM_rule_108 : decode b_MM_rule 108 = .ok (.iaload, 1) := by decide +kernel
theorem d_MM_rule_109 : decode b_MM_rule 109 = .ok (.iastore, 1) := by decide +kernel
theorem d_MM_rule_110 : decode b_MM_rule 110 = .ok (.iinc 3 1, 3) := by decide +kernel
theorem d_MM_rule_113 : decode b_MM_rule 113 = .ok (.goto (-49), 3) := by decide +kernel
theorem d_MM_rule_116 : decode b_MM_rule 116 = .ok (.aload_n 0, 1) := by decide +kernel
theorem d_MM_rule_117 : decode b_MM_rule 117 = .ok (.iconst 0, 1) := by decide +kernel
theorem d_MM_rule_118 : decode b_MM_rule 118 = .ok (.putfield 76, 3) := by decide +kernel
theorem d_MM_rule_121 : decode b_MM_rule 121 = .ok (.aload_n 0, 1) := by decide +kernel
theorem d_MM_rule_122 : decode b_MM_rule 122 = .ok (.dup, 1) := by decide +kernel
theorem d_MM_rule_123 : decode b_MM_rule 123 = .ok (.getfield 83, 3) := by decide +kernel
theorem d_MM_rule_126 : decode b_MM_rule 126 = .ok (.iconst 1, 1) := by decide +kernel
theorem d_MM_rule_127 : decode b_MM_rule 127 = .ok (.iadd, 1) := by decide +kernel
theorem d_MM_rule_128 : decode b_MM_rule 128 = .ok (.putfield 83, 3) := by decide +kernel
theorem d_MM_rule_131 : decode b_MM_rule 131 = .ok (.aload_n 0, 1) := by decide +kernel
theorem d_MM_rule_132 : decode b_MM_rule 132 = .ok (.getfield 83, 3) := by decide +kernel
theorem d_MM_rule_135 : decode b_MM_rule 135 = .ok (.iconst 1, 1) := by decide +kernel
theorem d_MM_rule_136 : decode b_MM_rule 136 = .ok (.isub, 1) := by decide +kernel
theorem d_MM_rule_137 : decode b_MM_rule 137 = .ok (.ireturn, 1) := by decide +kernel
theorem d_MM_bad_0 : decode b_MM_bad 0 = .ok (.iload_n 0, 1) := by decide +kernel
theorem d_MM_bad_1 : decode b_MM_bad 1 = .ok (.ifCond .lt 18, 3) := by decide +kernel
theorem d_MM_bad_4 : decode b_MM_bad 4 = .ok (.iload_n 0, 1) := by decide +kernel
theorem d_MM_bad_5 : decode b_MM_bad 5 = .ok (.iconst 3, 1) := by decide +kernel
theorem d_MM_bad_6 : decode b_MM_bad 6 = .ok (.if_icmp .gt 13, 3) := by decide +kernel
theorem d_MM_bad_9 : decode b_MM_bad 9 = .ok (.iload_n 1, 1) := by decide +kernel
theorem d_MM_bad_10 : decode b_MM_bad 10 = .ok (.ifCond .lt 9, 3) := by decide +kernel
theorem d_MM_bad_13 : decode b_MM_bad 13 = .ok (.iload_n 1, 1) := by decide +kernel
theorem d_MM_bad_14 : decode b_MM_bad 14 = .ok (.bipush 7, 2) := by decide +kernel
theorem d_MM_bad_16 : decode b_MM_bad 16 = .ok (.if_icmp .le 7, 3) := by decide +kernel
theorem d_MM_bad_19 : decode b_MM_bad 19 = .ok (.iconst 1, 1) := by decide +kernel
theorem d_MM_bad_20 : decode b_MM_bad 20 = .ok (.goto 4, 3) := by decide +kernel
theorem d_MM_bad_23 : decode b_MM_bad 23 = .ok (.iconst 0, 1) := by decide +kernel
theorem d_MM_bad_24 : decode b_MM_bad 24 = .ok (.ireturn, 1) := by decide +kernel
theorem d_MM_then_0 : decode b_MM_then 0 = .ok (.iload_n 1, 1) := by decide +kernel
theorem d_MM_then_1 : decode b_MM_then 1 = .ok (.ifCond .lt 29, 3) := by decide +kernel
theorem d_MM_then_4 : decode b_MM_then 4 = .ok (.iload_n 1, 1) := by decide +kernel
theorem d_MM_then_5 : decode b_MM_then 5 = .ok (.aload_n 0, 1) := by decide +kernel
theorem d_MM_then_6 : decode b_MM_then 6 = .ok (.getfield 83, 3) := by decide +kernel
theorem d_MM_then_9 : decode b_MM_then 9 = .ok (.if_icmp .ge 21, 3) := by decide +kernel
theorem d_MM_then_12 : decode b_MM_then 12 = .ok (.aload_n 0, 1) := by decide +kernel
theorem d_MM_then_13 : decode b_MM_then 13 = .ok (.getfield 22, 3) := by decide +kernel
theorem d_MM_then_16 : decode b_MM_then 16 = .ok (.iload_n 1, 1) := by decide +kernel
theorem d_MM_then_17 : decode b_MM_then 17 = .ok (.baload, 1) := by decide +kernel
theorem d_MM_then_18 : decode b_MM_then 18 = .ok (.ifCond .eq 12, 3) := by decide +kernel
theorem d_MM_then_21 : decode b_MM_then 21 = .ok (.iload_n 2, 1) := by decide +kernel
theorem d_MM_then_22 : decode b_MM_then 22 = .ok (.ifCond .lt 8, 3) := by decide +kernel
theorem d_MM_then_25 : decode b_MM_then 25 = .ok (.iload_n 2, 1) := by decide +kernel
theorem d_MM_then_26 : decode b_MM_then 26 = .ok (.iconst 4, 1) := by decide +kernel
theorem d_MM_then_27 : decode b_MM_then 27 = .ok (.if_icmp .le 5, 3) := by decide +kernel
theorem d_MM_then_30 : decode b_MM_then 30 = .ok (.iconst (-1), 1) := by decide +kernel
theorem d_MM_then_31 : decode b_MM_then 31 = .ok (.ireturn, 1) := by decide +kernel
theorem d_MM_then_32 : decode b_MM_then 32 = .ok (.aload_n 0, 1) := by decide +kernel
theorem d_MM_then_33 : decode b_MM_then 33 = .ok (.getfield 19, 3) := by decide +kernel
theorem d_MM_then_36 : decode b_MM_then 36 = .ok (.iload_n 1, 1) := by decide +kernel
theorem d_MM_then_37 : decode b_MM_then 37 = .ok (.iaload, 1) := by decide +kernel
theorem d_MM_then_38 : decode b_MM_then 38 = .ok (.iconst 4, 1) := by decide +kernel
theorem d_MM_then_39 : decode b_MM_then 39 = .ok (.irem, 1) := by decide +kernel
theorem d_MM_then_40 : decode b_MM_then 40 = .ok (.istore 4, 2) := by decide +kernel
theorem d_MM_then_42 : decode b_MM_then 42 = .ok (.iload_n 2, 1) := by decide +kernel
theorem d_MM_then_43 : decode b_MM_then 43 = .ok (.iconst 1, 1) := by decide +kernel
theorem d_MM_then_44 : decode b_MM_then 44 = .ok (.if_icmp .ne 15, 3) := by decide +kernel
theorem d_MM_then_47 : decode b_MM_then 47 = .ok (.iload_n 3, 1) := by decide +kernel
theorem d_MM_then_48 : decode b_MM_then 48 = .ok (.ifCond .lt 9, 3) := by decide +kernel
theorem d_MM_then_51 : decode b_MM_then 51 = .ok (.iload_n 3, 1) := by decide +kernel
theorem d_MM_then_52 : decode b_MM_then 52 = .ok (.iload 4, 2) := by decide +kernel
theorem d_MM_then_54 : decode b_MM_then 54 = .ok (.if_icmp .lt 5, 3) := by decide +kernel
theorem d_MM_then_57 : decode b_MM_then 57 = .ok (.iconst (-1), 1) := by decide +kernel
theorem d_MM_then_58 : decode b_MM_then 58 = .ok (.ireturn, 1) := by decide +kernel
theorem d_MM_then_59 : decode b_MM_then 59 = .ok (.iload_n 2, 1) := by decide +kernel
theorem d_MM_then_60 : decode b_MM_then 60 = .ok (.iconst 4, 1) := by decide +kernel
theorem d_MM_then_61 : decode b_MM_then 61 = .ok (.if_icmp .ne 23, 3) := by decide +kernel
theorem d_MM_then_64 : decode b_MM_then 64 = .ok (.iload_n 3, 1) := by decide +kernel
theorem d_MM_then_65 : decode b_MM_then 65 = .ok (.ifCond .lt 17, 3) := by decide +kernel
theorem d_MM_then_68 : decode b_MM_then 68 = .ok (.iload_n 3, 1) := by decide +kernel
theorem d_MM_then_69 : decode b_MM_then 69 = .ok (.bipush 31, 2) := by decide +kernel
theorem d_MM_then_71 : decode b_MM_then 71 = .ok (.if_icmp .gt 11, 3) := by decide +kernel
theorem d_MM_then_74 : decode b_MM_then 74 = .ok (.iload_n 3, 1) := by decide +kernel
theorem d_MM_then_75 : decode b_MM_then 75 = .ok (.iconst 4, 1) := by decide +kernel
theorem d_MM_then_76 : decode b_MM_then 76 = .ok (.irem, 1) := by decide +kernel
theorem d_MM_then_77 : decode b_MM_then 77 = .ok (.iload 4, 2) := by decide +kernel
theorem d_MM_then_79 : decode b_MM_then 79 = .ok (.if_icmp .le 5, 3) := by decide +kernel
theorem d_MM_then_82 : decode b_MM_then 82 = .ok (.iconst (-1), 1) := by decide +kernel
theorem d_MM_then_83 : decode b_MM_then 83 = .ok (.ireturn, 1) := by decide +kernel
theorem d_MM_then_84 : decode b_MM_then 84 = .ok (.aload_n 0, 1) := by decide +kernel
theorem d_MM_then_85 : decode b_MM_then 85 = .ok (.getfield 38, 3) := by decide +kernel
theorem d_MM_then_88 : decode b_MM_then 88 = .ok (.iload_n 1, 1) := by decide +kernel
theorem d_MM_then_89 : decode b_MM_then 89 = .ok (.iaload, 1) := by decide +kernel
theorem d_MM_then_90 : decode b_MM_then 90 = .ok (.iconst 4, 1) := by decide +kernel
theorem d_MM_then_91 : decode b_MM_then 91 = .ok (.if_icmp .ne 6, 3) := by decide +kernel
theorem d_MM_then_94 : decode b_MM_then 94 = .ok (.bipush (-2), 2) := by decide +kernel
theorem d_MM_then_96 : decode b_MM_then 96 = .ok (.ireturn, 1) := by decide +kernel
theorem d_MM_then_97 : decode b_MM_then 97 = .ok (.aload_n 0, 1) := by decide +kernel
theorem d_MM_then_98 : decode b_MM_then 98 = .ok (.getfield 32, 3) := by decide +kernel
theorem d_MM_then_101 : decode b_MM_then 101 = .ok (.iconst 4, 1) := by decide +kernel
theorem d_MM_then_102 : decode b_MM_then 102 = .ok (.iload_n 1, 1) := by decide +kernel
theorem d_MM_then_103 : decode b_MM_then 103 = .ok (.imul, 1) := by decide +kernel
theorem d_MM_then_104 : decode b_MM_then 104 = .ok (.aload_n 0, 1) := by decide +kernel
theorem d_MM_then_105 : decode b_MM_then 105 = .ok (.getfield 38, 3) := by decide +kernel
theorem d_MM_then_108 : decode b_MM_then 108 = .ok (.iload_n 1, 1) := by decide +kernel
theorem d_MM_then_109 : decode b_MM_then 109 = .ok (.iaload, 1) := by decide +kernel
theorem d_MM_then_110 : decode b_MM_then 110 = .ok (.iadd, 1) := by decide +kernel
theorem d_MM_then_111 : decode b_MM_then 111 = .ok (.iload_n 2, 1) := by decide +kernel
theorem d_MM_then_112 : decode b_MM_then 112 = .ok (.iastore, 1) := by decide +kernel
theorem d_MM_then_113 : decode b_MM_then 113 = .ok (.aload_n 0, 1) := by decide +kernel
theorem d_MM_then_114 : decode b_MM_then 114 = .ok (.getfield 35, 3) := by decide +kernel
theorem d_MM_then_117 : decode b_MM_then 117 = .ok (.iconst 4, 1) := by decide +kernel
theorem d_MM_then_118 : decode b_MM_then 118 = .ok (.iload_n 1, 1) := by decide +kernel
theorem d_MM_then_119 : decode b_MM_then 119 = .ok (.imul, 1) := by decide +kernel
theorem d_MM_then_120 : decode b_MM_then 120 = .ok (.aload_n 0, 1) := by decide +kernel
theorem d_MM_then_121 : decode b_MM_then 121 = .ok (.getfield 38, 3) := by decide +kernel
theorem d_MM_then_124 : decode b_MM_then 124 = .ok (.iload_n 1, 1) := by decide +kernel
theorem d_MM_then_125 : decode b_MM_then 125 = .ok (.iaload, 1) := by decide +kernel
theorem d_MM_then_126 : decode b_MM_then 126 = .ok (.iadd, 1) := by decide +kernel
theorem d_MM_then_127 : decode b_MM_then 127 = .ok (.iload_n 3, 1) := by decide +kernel
theorem d_MM_then_128 : decode b_MM_then 128 = .ok (.iastore, 1) := by decide +kernel
theorem d_MM_then_129 : decode b_MM_then 129 = .ok (.aload_n 0, 1) := by decide +kernel
theorem d_MM_then_130 : decode b_MM_then 130 = .ok (.getfield 38, 3) := by decide +kernel
theorem d_MM_then_133 : decode b_MM_then 133 = .ok (.iload_n 1, 1) := by decide +kernel
theorem d_MM_then_134 : decode b_MM_then 134 = .ok (.dup2, 1) := by decide +kernel
theorem d_MM_then_135 : decode b_MM_then 135 = .ok (.iaload, 1) := by decide +kernel
theorem d_MM_then_136 : decode b_MM_then 136 = .ok (.iconst 1, 1) := by decide +kernel
theorem d_MM_then_137 : decode b_MM_then 137 = .ok (.iadd, 1) := by decide +kernel
theorem d_MM_then_138 : decode b_MM_then 138 = .ok (.iastore, 1) := by decide +kernel
theorem d_MM_then_139 : decode b_MM_then 139 = .ok (.aload_n 0, 1) := by decide +kernel
theorem d_MM_then_140 : decode b_MM_then 140 = .ok (.getfield 38, 3) := by decide +kernel
theorem d_MM_then_143 : decode b_MM_then 143 = .ok (.iload_n 1, 1) := by decide +kernel
theorem d_MM_then_144 : decode b_MM_then 144 = .ok (.iaload, 1) := by decide +kernel
theorem d_MM_then_145 : decode b_MM_then 145 = .ok (.ireturn, 1) := by decide +kernel
theorem d_MM_strict_0 : decode b_MM_strict 0 = .ok (.iload_n 1, 1) := by decide +kernel
theorem d_MM_strict_1 : decode b_MM_strict 1 = .ok (.ifCond .lt 8, 3) := by decide +kernel
theorem d_MM_strict_4 : decode b_MM_strict 4 = .ok (.iload_n 1, 1) := by decide +kernel
theorem d_MM_strict_5 : decode b_MM_strict 5 = .ok (.iconst 3, 1) := by decide +kernel
theorem d_MM_strict_6 : decode b_MM_strict 6 = .ok (.if_icmp .le 5, 3) := by decide +kernel
theorem d_MM_strict_9 : decode b_MM_strict 9 = .ok (.iconst (-1), 1) := by decide +kernel
theorem d_MM_strict_10 : decode b_MM_strict 10 = .ok (.ireturn, 1) := by decide +kernel
theorem d_MM_strict_11 : decode b_MM_strict 11 = .ok (.aload_n 0, 1) := by decide +kernel
theorem d_MM_strict_12 : decode b_MM_strict 12 = .ok (.getfield 41, 3) := by decide +kernel
theorem d_MM_strict_15 : decode b_MM_strict 15 = .ok (.iload_n 1, 1) := by decide +kernel
theorem d_MM_strict_16 : decode b_MM_strict 16 = .ok (.baload, 1) := by decide +kernel
theorem d_MM_strict_17 : decode b_MM_strict 17 = .ok (.ifCond .eq 7, 3) := by decide +kernel
theorem d_MM_strict_20 : decode b_MM_strict 20 = .ok (.iconst 1, 1) := by decide +kernel
theorem d_MM_strict_21 : decode b_MM_strict 21 = .ok (.goto 4, 3) := by decide +kernel
theorem d_MM_strict_24 : decode b_MM_strict 24 = .ok (.iconst 0, 1) := by decide +kernel
theorem d_MM_strict_25 : decode b_MM_strict 25 = .ok (.istore_n 3, 1) := by decide +kernel
theorem d_MM_strict_26 : decode b_MM_strict 26 = .ok (.aload_n 0, 1) := by decide +kernel
theorem d_MM_strict_27 : decode b_MM_strict 27 = .ok (.getfield 41, 3) := by decide +kernel
theorem d_MM_strict_30 : decode b_MM_strict 30 = .ok (.iload_n 1, 1) := by decide +kernel
theorem d_MM_strict_31 : decode b_MM_strict 31 = .ok (.iload_n 2, 1) := by decide +kernel
theorem d_MM_strict_32 : decode b_MM_strict 32 = .ok (.bastore, 1) := by decide +kernel
theorem d_MM_strict_33 : decode b_MM_strict 33 = .ok (.iload_n 3, 1) := by decide +kernel
theorem d_MM_strict_34 : decode b_MM_strict 34 = .ok (.ireturn, 1) := by decide +kernel
theorem d_MM_call_0 : decode b_MM_call 0 = .ok (.iload_n 1, 1) := by decide +kernel
theorem d_MM_call_1 : decode b_MM_call 1 = .ok (.iload_n 2, 1) := by decide +kernel
theorem d_MM_call_2 : decode b_MM_call 2 = .ok (.invokestatic 79, 3) := by decide +kernel
theorem d_MM_call_5 : decode b_MM_call 5 = .ok (.ifCond .ne 13, 3) := by decide +kernel
theorem d_MM_call_8 : decode b_MM_call 8 = .ok (.aload_n 0, 1) := by decide +kernel
theorem d_MM_call_9 : decode b_MM_call 9 = .ok (.getfield 90, 3) := by decide +kernel
theorem d_MM_call_12 : decode b_MM_call 12 = .ok (.sipush 160, 3) := by decide +kernel
theorem d_MM_call_15 : decode b_MM_call 15 = .ok (.if_icmp .ne 7, 3) := by decide +kernel
theorem d_MM_call_18 : decode b_MM_call 18 = .ok (.ldc2_w 106, 3) := by decide +kernel
theorem d_MM_call_21 : decode b_MM_call 21 = .ok (.lreturn, 1) := by decide +kernel
theorem d_MM_call_22 : decode b_MM_call 22 = .ok (.aload_n 0, 1) := by decide +kernel
theorem d_MM_call_23 : decode b_MM_call 23 = .ok (.iload_n 1, 1) := by decide +kernel
theorem d_MM_call_24 : decode b_MM_call 24 = .ok (.iload_n 2, 1) := by decide +kernel
theorem d_MM_call_25 : decode b_MM_call 25 = .ok (.iconst 0, 1) := by decide +kernel
theorem d_MM_call_26 : decode b_MM_call 26 = .ok (.iconst (-1), 1) := by decide +kernel
theorem d_MM_call_27 : decode b_MM_call 27 = .ok (.invokevirtual 108, 3) := by decide +kernel
theorem d_MM_call_30 : decode b_MM_call 30 = .ok (.istore 6, 2) := by decide +kernel
theorem d_MM_call_32 : decode b_MM_call 32 = .ok (.aload_n 0, 1) := by decide +kernel
theorem d_MM_call_33 : decode b_MM_call 33 = .ok (.getfield 50, 3) := by decide +kernel
theorem d_MM_call_36 : decode b_MM_call 36 = .ok (.iconst 3, 1) := by decide +kernel
theorem d_MM_call_37 : decode b_MM_call 37 = .ok (.iload 6, 2) := by decide +kernel
theorem d_MM_call_39 : decode b_MM_call 39 = .ok (.imul, 1) := by decide +kernel
theorem d_MM_call_40 : decode b_MM_call 40 = .ok (.iload_n 2, 1) := by decide +kernel
theorem d_MM_call_41 : decode b_MM_call 41 = .ok (.iconst 4, 1) := by decide +kernel
theorem d_MM_call_42 : decode b_MM_call 42 = .ok (.irem, 1) := by decide +kernel
theorem d_MM_call_43 : decode b_MM_call 43 = .ok (.ifCond .le 7, 3) := by decide +kernel
theorem d_MM_call_46 : decode b_MM_call 46 = .ok (.iload_n 3, 1) := by decide +kernel
theorem d_MM_call_47 : decode b_MM_call 47 = .ok (.goto 4, 3) := by decide +kernel
theorem d_MM_call_50 : decode b_MM_call 50 = .ok (.iconst 0, 1) := by decide +kernel
theorem d_MM_call_51 : decode b_MM_call 51 = .ok (.iastore, 1) := by decide +kernel
theorem d_MM_call_52 : decode b_MM_call 52 = .ok (.aload_n 0, 1) := by decide +kernel
theorem d_MM_call_53 : decode b_MM_call 53 = .ok (.getfield 50, 3) := by decide +kernel
theorem d_MM_call_56 : decode b_MM_call 56 = .ok (.iconst 3, 1) := by decide +kernel
theorem d_MM_call_57 : decode b_MM_call 57 = .ok (.iload 6, 2) := by decide +kernel
theorem d_MM_call_59 : decode b_MM_call 59 = .ok (.imul, 1) := by decide +kernel
theorem d_MM_call_60 : decode b_MM_call 60 = .ok (.iconst 1, 1) := by decide +kernel
theorem d_MM_call_61 : decode b_MM_call 61 = .ok (.iadd, 1) := by decide +kernel
theorem d_MM_call_62 : decode b_MM_call 62 = .ok (.iload_n 2, 1) := by decide +kernel
theorem d_MM_call_63 : decode b_MM_call 63 = .ok (.iconst 4, 1) := by decide +kernel
theorem d_MM_call_64 : decode b_MM_call 64 = .ok (.irem, 1) := by decide +kernel
theorem d_MM_call_65 : decode b_MM_call 65 = .ok (.iconst 1, 1) := by decide +kernel
theorem d_MM_call_66 : decode b_MM_call 66 = .ok (.if_icmp .le 8, 3) := by decide +kernel
theorem d_MM_call_69 : decode b_MM_call 69 = .ok (.iload 4, 2) := by decide +kernel
theorem d_MM_call_71 : decode b_MM_call 71 = .ok (.goto 4, 3) := by decide +kernel
theorem d_MM_call_74 : decode b_MM_call 74 = .ok (.iconst 0, 1) := by decide +kernel
theorem d_MM_call_75 : decode b_MM_call 75 = .ok (.iastore, 1) := by decide +kernel
theorem d_MM_call_76 : decode b_MM_call 76 = .ok (.aload_n 0, 1) := by decide +kernel
theorem d_MM_call_77 : decode b_MM_call 77 = .ok (.getfield 50, 3) := by decide +kernel
theorem d_MM_call_80 : decode b_MM_call 80 = .ok (.iconst 3, 1) := by decide +kernel
theorem d_MM_call_81 : decode b_MM_call 81 = .ok (.iload 6, 2) := by decide +kernel
theorem d_MM_call_83 : decode b_MM_call 83 = .ok (.imul, 1) := by decide +kernel
theorem d_MM_call_84 : decode b_MM_call 84 = .ok (.iconst 2, 1) := by decide +kernel
theorem d_MM_call_85 : decode b_MM_call 85 = .ok (.iadd, 1) := by decide +kernel
theorem d_MM_call_86 : decode b_MM_call 86 = .ok (.iload_n 2, 1) := by decide +kernel
theorem d_MM_call_87 : decode b_MM_call 87 = .ok (.iconst 4, 1) := by decide +kernel
theorem d_MM_call_88 : decode b_MM_call 88 = .ok (.irem, 1) := by decide +kernel
theorem d_MM_call_89 : decode b_MM_call 89 = .ok (.iconst 2, 1) := by decide +kernel
theorem d_MM_call_90 : decode b_MM_call 90 = .ok (.if_icmp .le 8, 3) := by decide +kernel
theorem d_MM_call_93 : decode b_MM_call 93 = .ok (.iload 5, 2) := by decide +kernel
theorem d_MM_call_95 : decode b_MM_call 95 = .ok (.goto 4, 3) := by decide +kernel
theorem d_MM_call_98 : decode b_MM_call 98 = .ok (.iconst 0, 1) := by decide +kernel
theorem d_MM_call_99 : decode b_MM_call 99 = .ok (.iastore, 1) := by decide +kernel
theorem d_MM_call_100 : decode b_MM_call 100 = .ok (.aload_n 0, 1) := by decide +kernel
theorem d_MM_call_101 : decode b_MM_call 101 = .ok (.iload 6, 2) := by decide +kernel
theorem d_MM_call_103 : decode b_MM_call 103 = .ok (.invokevirtual 112, 3) := by decide +kernel
theorem d_MM_call_106 : decode b_MM_call 106 = .ok (.istore 7, 2) := by decide +kernel
theorem d_MM_call_108 : decode b_MM_call 108 = .ok (.iload 7, 2) := by decide +kernel
theorem d_MM_call_110 : decode b_MM_call 110 = .ok (.ifCond .lt 144, 3) := by decide +kernel
theorem d_MM_call_113 : decode b_MM_call 113 = .ok (.aload_n 0, 1) := by decide +kernel
theorem d_MM_call_114 : decode b_MM_call 114 = .ok (.getfield 32, 3) := by decide +kernel
theorem d_MM_call_117 : decode b_MM_call 117 = .ok (.iload 7, 2) := by decide +kernel
theorem d_MM_call_119 : decode b_MM_call 119 = .ok (.iaload, 1) := by decide +kernel
theorem d_MM_call_120 : decode b_MM_call 120 = .ok (.iconst 4, 1) := by decide +kernel
theorem d_MM_call_121 : decode b_MM_call 121 = .ok (.if_icmp .ne 133, 3) := by decide +kernel
theorem d_MM_call_124 : decode b_MM_call 124 = .ok (.aload_n 0, 1) := by decide +kernel
theorem d_MM_call_125 : decode b_MM_call 125 = .ok (.getfield 53, 3) := by decide +kernel
theorem d_MM_call_128 : decode b_MM_call 128 = .ok (.iload 6, 2) := by decide +kernel
theorem d_MM_call_130 : decode b_MM_call 130 = .ok (.iaload, 1) := by decide +kernel
theorem d_MM_call_131 : decode b_MM_call 131 = .ok (.iconst 3, 1) := by decide +kernel
theorem d_MM_call_132 : decode b_MM_call 132 = .ok (.if_icmp .ge 122, 3) := by decide +kernel
theorem d_MM_call_135 : decode b_MM_call 135 = .ok (.aload_n 0, 1) := by decide +kernel
theorem d_MM_call_136 : decode b_MM_call 136 = .ok (.getfield 90, 3) := by decide +kernel
theorem d_MM_call_139 : decode b_MM_call 139 = .ok (.sipush 160, 3) := by decide +kernel
theorem d_MM_call_142 : decode b_MM_call 142 = .ok (.if_icmp .ge 112, 3) := by decide +kernel
theorem d_MM_call_145 : decode b_MM_call 145 = .ok (.aload_n 0, 1) := by decide +kernel
theorem d_MM_call_146 : decode b_MM_call 146 = .ok (.aload_n 0, 1) := by decide +kernel
theorem d_MM_call_147 : decode b_MM_call 147 = .ok (.getfield 35, 3) := by decide +kernel
theorem d_MM_call_150 : decode b_MM_call 150 = .ok (.iload 7, 2) := by decide +kernel
theorem d_MM_call_152 : decode b_MM_call 152 = .ok (.iaload, 1) := by decide +kernel
theorem d_MM_call_153 : decode b_MM_call 153 = .ok (.bipush 8, 2) := by decide +kernel
theorem d_MM_call_155 : decode b_MM_call 155 = .ok (.idiv, 1) := by decide +kernel
theorem d_MM_call_156 : decode b_MM_call 156 = .ok (.aload_n 0, 1) := by decide +kernel
theorem d_MM_call_157 : decode b_MM_call 157 = .ok (.getfield 35, 3) := by decide +kernel
theorem d_MM_call_160 : decode b_MM_call 160 = .ok (.iload 7, 2) := by decide +kernel
theorem d_MM_call_162 : decode b_MM_call 162 = .ok (.iaload, 1) := by decide +kernel
theorem d_MM_call_163 : decode b_MM_call 163 = .ok (.bipush 8, 2) := by decide +kernel
theorem d_MM_call_165 : decode b_MM_call 165 = .ok (.irem, 1) := by decide +kernel
theorem d_MM_call_166 : decode b_MM_call 166 = .ok (.aload_n 0, 1) := by decide +kernel
theorem d_MM_call_167 : decode b_MM_call 167 = .ok (.getfield 53, 3) := by decide +kernel
theorem d_MM_call_170 : decode b_MM_call 170 = .ok (.iload 6, 2) := by decide +kernel
theorem d_MM_call_172 : decode b_MM_call 172 = .ok (.iaload, 1) := by decide +kernel
theorem d_MM_call_173 : decode b_MM_call 173 = .ok (.iconst 1, 1) := by decide +kernel
theorem d_MM_call_174 : decode b_MM_call 174 = .ok (.iadd, 1) := by decide +kernel
theorem d_MM_call_175 : decode b_MM_call 175 = .ok (.iload 6, 2) := by decide +kernel
theorem d_MM_call_177 : decode b_MM_call 177 = .ok (.invokevirtual 108, 3) := by decide +kernel
theorem d_MM_call_180 : decode b_MM_call 180 = .ok (.istore 8, 2) := by decide +kernel
theorem d_MM_call_182 : decode b_MM_call 182 = .ok (.iconst 0, 1) := by decide +kernel
theorem d_MM_call_183 : decode b_MM_call 183 = .ok (.istore 9, 2) := by decide +kernel
theorem d_MM_call_185 : decode b_MM_call 185 = .ok (.iload 9, 2) := by decide +kernel
theorem d_MM_call_187 : decode b_MM_call 187 = .ok (.iconst 3, 1) := by decide +kernel
theorem d_MM_call_188 : decode b_MM_call 188 = .ok (.if_icmp .ge 51, 3) := by decide +kernel
theorem d_MM_call_191 : decode b_MM_call 191 = .ok (.aload_n 0, 1) := by decide +kernel
theorem d_MM_call_192 : decode b_MM_call 192 = .ok (.getfield 50, 3) := by decide +kernel
theorem d_MM_call_195 : decode b_MM_call 195 = .ok (.iconst 3, 1) := by decide +kernel
theorem d_MM_call_196 : decode b_MM_call 196 = .ok (.iload 8, 2) := by decide +kernel
theorem d_MM_call_198 : decode b_MM_call 198 = .ok (.imul, 1) := by decide +kernel
theorem d_MM_call_199 : decode b_MM_call 199 = .ok (.iload 9, 2) := by decide +kernel
theorem d_MM_call_201 : decode b_MM_call 201 = .ok (.iadd, 1) := by decide +kernel
theorem d_MM_call_202 : decode b_MM_call 202 = .ok (.iload 9, 2) := by decide +kernel
theorem d_MM_call_204 : decode b_MM_call 204 = .ok (.aload_n 0, 1) := by decide +kernel
theorem d_MM_call_205 : decode b_MM_call 205 = .ok (.getfield 47, 3) := by decide +kernel
theorem d_MM_call_208 : decode b_MM_call 208 = .ok (.iload 8, 2) := by decide +kernel
theorem d_MM_call_210 : decode b_MM_call 210 = .ok (.iaload, 1) := by decide +kernel
theorem d_MM_call_211 : decode b_MM_call 211 = .ok (.iconst 4, 1) := by decide +kernel
theorem d_MM_call_212 : decode b_MM_call 212 = .ok (.irem, 1) := by decide +kernel
theorem d_MM_call_213 : decode b_MM_call 213 = .ok (.if_icmp .ge 18, 3) := by decide +kernel
theorem d_MM_call_216 : decode b_MM_call 216 = .ok (.aload_n 0, 1) := by decide +kernel
theorem d_MM_call_217 : decode b_MM_call 217 = .ok (.getfield 50, 3) := by decide +kernel
theorem d_MM_call_220 : decode b_MM_call 220 = .ok (.iconst 3, 1) := by decide +kernel
theorem d_MM_call_221 : decode b_MM_call 221 = .ok (.iload 6, 2) := by decide +kernel
theorem d_MM_call_223 : decode b_MM_call 223 = .ok (.imul, 1) := by decide +kernel
theorem d_MM_call_224 : decode b_MM_call 224 = .ok (.iload 9, 2) := by decide +kernel
theorem d_MM_call_226 : decode b_MM_call 226 = .ok (.iadd, 1) := by decide +kernel
theorem d_MM_call_227 : decode b_MM_call 227 = .ok (.iaload, 1) := by decide +kernel
theorem d_MM_call_228 : decode b_MM_call 228 = .ok (.goto 4, 3) := by decide +kernel
theorem d_MM_call_231 : decode b_MM_call 231 = .ok (.iconst 0, 1) := by decide +kernel
theorem d_MM_call_232 : decode b_MM_call 232 = .ok (.iastore, 1) := by decide +kernel
theorem d_MM_call_233 : decode b_MM_call 233 = .ok (.iinc 9 1, 3) := by decide +kernel
theorem d_MM_call_236 : decode b_MM_call 236 = .ok (.goto (-51), 3) := by decide +kernel
theorem d_MM_call_239 : decode b_MM_call 239 = .ok (.iload 8, 2) := by decide +kernel
theorem d_MM_call_241 : decode b_MM_call 241 = .ok (.istore 6, 2) := by decide +kernel
theorem d_MM_call_243 : decode b_MM_call 243 = .ok (.aload_n 0, 1) := by decide +kernel
theorem d_MM_call_244 : decode b_MM_call 244 = .ok (.iload 6, 2) := by decide +kernel
theorem d_MM_call_246 : decode b_MM_call 246 = .ok (.invokevirtual 112, 3) := by decide +kernel
theorem d_MM_call_249 : decode b_MM_call 249 = .ok (.istore 7, 2) := by decide +kernel
theorem d_MM_call_251 : decode b_MM_call 251 = .ok (.goto (-143), 3) := by decide +kernel
theorem d_MM_call_254 : decode b_MM_call 254 = .ok (.aload_n 0, 1) := by decide +kernel
theorem d_MM_call_255 : decode b_MM_call 255 = .ok (.iload 6, 2) := by decide +kernel
theorem d_MM_call_257 : decode b_MM_call 257 = .ok (.iload 7, 2) := by decide +kernel
theorem d_MM_call_259 : decode b_MM_call 259 = .ok (.invokevirtual 116, 3) := by decide +kernel
theorem d_MM_call_262 : decode b_MM_call 262 = .ok (.lstore 8, 2) := by decide +kernel
theorem d_MM_call_264 : decode b_MM_call 264 = .ok (.iload 6, 2) := by decide +kernel
theorem d_MM_call_266 : decode b_MM_call 266 = .ok (.istore 10, 2) := by decide +kernel
theorem d_MM_call_268 : decode b_MM_call 268 = .ok (.iload 10, 2) := by decide +kernel
theorem d_MM_call_270 : decode b_MM_call 270 = .ok (.ifCond .lt 24, 3) := by decide +kernel
theorem d_MM_call_273 : decode b_MM_call 273 = .ok (.aload_n 0, 1) := by decide +kernel
theorem d_MM_call_274 : decode b_MM_call 274 = .ok (.getfield 62, 3) := by decide +kernel
theorem d_MM_call_277 : decode b_MM_call 277 = .ok (.iload 10, 2) := by decide +kernel
theorem d_MM_call_279 : decode b_MM_call 279 = .ok (.lload 8, 2) := by decide +kernel
theorem d_MM_call_281 : decode b_MM_call 281 = .ok (.lastore, 1) := by decide +kernel
theorem d_MM_call_282 : decode b_MM_call 282 = .ok (.aload_n 0, 1) := by decide +kernel
theorem d_MM_call_283 : decode b_MM_call 283 = .ok (.getfield 56, 3) := by decide +kernel
theorem d_MM_call_286 : decode b_MM_call 286 = .ok (.iload 10, 2) := by decide +kernel
theorem d_MM_call_288 : decode b_MM_call 288 = .ok (.iaload, 1) := by decide +kernel
theorem d_MM_call_289 : decode b_MM_call 289 = .ok (.istore 10, 2) := by decide +kernel
theorem d_MM_call_291 : decode b_MM_call 291 = .ok (.goto (-23), 3) := by decide +kernel
theorem d_MM_call_294 : decode b_MM_call 294 = .ok (.lload 8, 2) := by decide +kernel
theorem d_MM_call_296 : decode b_MM_call 296 = .ok (.lreturn, 1) := by decide +kernel
theorem d_MM_note_0 : decode b_MM_note 0 = .ok (.aload_n 0, 1) := by decide +kernel
theorem d_MM_note_1 : decode b_MM_note 1 = .ok (.getfield 90, 3) := by decide +kernel
theorem d_MM_note_4 : decode b_MM_note 4 = .ok (.istore 5, 2) := by decide +kernel
theorem d_MM_note_6 : decode b_MM_note 6 = .ok (.aload_n 0, 1) := by decide +kernel
theorem d_MM_note_7 : decode b_MM_note 7 = .ok (.getfield 44, 3) := by decide +kernel
theorem d_MM_note_10 : decode b_MM_note 10 = .ok (.iload 5, 2) := by decide +kernel
theorem d_MM_note_12 : decode b_MM_note 12 = .ok (.iload_n 1, 1) := by decide +kernel
theorem d_MM_note_13 : decode b_MM_note 13 = .ok (.iastore, 1) := by decide +kernel
theorem d_MM_note_14 : decode b_MM_note 14 = .ok (.aload_n 0, 1) := by decide +kernel
theorem d_MM_note_15 : decode b_MM_note 15 = .ok (.getfield 47, 3) := by decide +kernel
theorem d_MM_note_18 : decode b_MM_note 18 = .ok (.iload 5, 2) := by decide +kernel
theorem d_MM_note_20 : decode b_MM_note 20 = .ok (.iload_n 2, 1) := by decide +kernel
theorem d_MM_note_21 : decode b_MM_note 21 = .ok (.iastore, 1) := by decide +kernel
theorem d_MM_note_22 : decode b_MM_note 22 = .ok (.aload_n 0, 1) := by decide +kernel
theorem d_MM_note_23 : decode b_MM_note 23 = .ok (.getfield 53, 3) := by decide +kernel
theorem d_MM_note_26 : decode b_MM_note 26 = .ok (.iload 5, 2) := by decide +kernel
theorem d_MM_note_28 : decode b_MM_note 28 = .ok (.iload_n 3, 1) := by decide +kernel
theorem d_MM_note_29 : decode b_MM_note 29 = .ok (.iastore, 1) := by decide +kernel
theorem d_MM_note_30 : decode b_MM_note 30 = .ok (.aload_n 0, 1) := by decide +kernel
theorem d_MM_note_31 : decode b_MM_note 31 = .ok (.getfield 56, 3) := by decide +kernel
theorem d_MM_note_34 : decode b_MM_note 34 = .ok (.iload 5, 2) := by decide +kernel
theorem d_MM_note_36 : decode b_MM_note 36 = .ok (.iload 4, 2) := by decide +kernel
theorem d_MM_note_38 : decode b_MM_note 38 = .ok (.iastore, 1) := by decide +kernel
theorem d_MM_note_39 : decode b_MM_note 39 = .ok (.aload_n 0, 1) := by decide +kernel
theorem d_MM_note_40 : decode b_MM_note 40 = .ok (.getfield 66, 3) := by decide +kernel
theorem d_MM_note_43 : decode b_MM_note 43 = .ok (.iload 5, 2) := by decide +kernel
theorem d_MM_note_45 : decode b_MM_note 45 = .ok (.iconst 1, 1) := by decide +kernel
theorem d_MM_note_46 : decode b_MM_note 46 = .ok (.bastore, 1) := by decide +kernel
theorem d_MM_note_47 : decode b_MM_note 47 = .ok (.aload_n 0, 1) := by decide +kernel
theorem d_MM_note_48 : decode b_MM_note 48 = .ok (.dup, 1) := by decide +kernel
theorem d_MM_note_49 : decode b_MM_note 49 = .ok (.getfield 90, 3) := by decide +kernel
theorem d_MM_note_52 : decode b_MM_note 52 = .ok (.iconst 1, 1) := by decide +kernel
theorem d_MM_note_53 : decode b_MM_note 53 = .ok (.iadd, 1) := by decide +kernel
theorem d_MM_note_54 : decode b_MM_note 54 = .ok (.putfield 90, 3) := by decide +kernel
theorem d_MM_note_57 : decode b_MM_note 57 = .ok (.aload_n 0, 1) := by decide +kernel
theorem d_MM_note_58 : decode b_MM_note 58 = .ok (.getfield 59, 3) := by decide +kernel
theorem d_MM_note_61 : decode b_MM_note 61 = .ok (.iload 5, 2) := by decide +kernel
theorem d_MM_note_63 : decode b_MM_note 63 = .ok (.iconst (-1), 1) := by decide +kernel
theorem d_MM_note_64 : decode b_MM_note 64 = .ok (.iastore, 1) := by decide +kernel
theorem d_MM_note_65 : decode b_MM_note 65 = .ok (.iload 5, 2) := by decide +kernel
theorem d_MM_note_67 : decode b_MM_note 67 = .ok (.ireturn, 1) := by decide +kernel
theorem d_MM_action_0 : decode b_MM_action 0 = .ok (.iconst 0, 1) := by decide +kernel
theorem d_MM_action_1 : decode b_MM_action 1 = .ok (.istore_n 2, 1) := by decide +kernel
theorem d_MM_action_2 : decode b_MM_action 2 = .ok (.iload_n 2, 1) := by decide +kernel
theorem d_MM_action_3 : decode b_MM_action 3 = .ok (.aload_n 0, 1) := by decide +kernel
theorem d_MM_action_4 : decode b_MM_action 4 = .ok (.getfield 83, 3) := by decide +kernel
theorem d_MM_action_7 : decode b_MM_action 7 = .ok (.if_icmp .ge 25, 3) := by decide +kernel
theorem d_MM_action_10 : decode b_MM_action 10 = .ok (.aload_n 0, 1) := by decide +kernel
theorem d_MM_action_11 : decode b_MM_action 11 = .ok (.iload_n 2, 1) := by decide +kernel
theorem d_MM_action_12 : decode b_MM_action 12 = .ok (.iload_n 1, 1) := by decide +kernel
theorem d_MM_action_13 : decode b_MM_action 13 = .ok (.invokevirtual 93, 3) := by decide +kernel
theorem d_MM_action_16 : decode b_MM_action 16 = .ok (.ifCond .eq 10, 3) := by decide +kernel
theorem d_MM_action_19 : decode b_MM_action 19 = .ok (.aload_n 0, 1) := by decide +kernel
theorem d_MM_action_20 : decode b_MM_action 20 = .ok (.getfield 59, 3) := by decide +kernel
theorem d_MM_action_23 : decode b_MM_action 23 = .ok (.iload_n 1, 1) := by decide +kernel
theorem d_MM_action_24 : decode b_MM_action 24 = .ok (.iload_n 2, 1) := by decide +kernel
theorem d_MM_action_25 : decode b_MM_action 25 = .ok (.iastore, 1) := by decide +kernel
theorem d_MM_action_26 : decode b_MM_action 26 = .ok (.iinc 2 1, 3) := by decide +kernel
theorem d_MM_action_29 : decode b_MM_action 29 = .ok (.goto (-27), 3) := by decide +kernel
theorem d_MM_action_32 : decode b_MM_action 32 = .ok (.aload_n 0, 1) := by decide +kernel
theorem d_MM_action_33 : decode b_MM_action 33 = .ok (.getfield 59, 3) := by decide +kernel
theorem d_MM_action_36 : decode b_MM_action 36 = .ok (.iload_n 1, 1) := by decide +kernel
theorem d_MM_action_37 : decode b_MM_action 37 = .ok (.iaload, 1) := by decide +kernel
theorem d_MM_action_38 : decode b_MM_action 38 = .ok (.istore_n 2, 1) := by decide +kernel
theorem d_MM_action_39 : decode b_MM_action 39 = .ok (.iload_n 2, 1) := by decide +kernel
theorem d_MM_action_40 : decode b_MM_action 40 = .ok (.ifCond .lt 12, 3) := by decide +kernel
theorem d_MM_action_43 : decode b_MM_action 43 = .ok (.aload_n 0, 1) := by decide +kernel
theorem d_MM_action_44 : decode b_MM_action 44 = .ok (.getfield 38, 3) := by decide +kernel
theorem d_MM_action_47 : decode b_MM_action 47 = .ok (.iload_n 2, 1) := by decide +kernel
theorem d_MM_action_48 : decode b_MM_action 48 = .ok (.iaload, 1) := by decide +kernel
theorem d_MM_action_49 : decode b_MM_action 49 = .ok (.ifCond .ne 5, 3) := by decide +kernel
theorem d_MM_action_52 : decode b_MM_action 52 = .ok (.iconst (-1), 1) := by decide +kernel
theorem d_MM_action_53 : decode b_MM_action 53 = .ok (.ireturn, 1) := by decide +kernel
theorem d_MM_action_54 : decode b_MM_action 54 = .ok (.aload_n 0, 1) := by decide +kernel
theorem d_MM_action_55 : decode b_MM_action 55 = .ok (.iload_n 2, 1) := by decide +kernel
theorem d_MM_action_56 : decode b_MM_action 56 = .ok (.iload_n 1, 1) := by decide +kernel
theorem d_MM_action_57 : decode b_MM_action 57 = .ok (.invokevirtual 96, 3) := by decide +kernel
theorem d_MM_action_60 : decode b_MM_action 60 = .ok (.istore_n 3, 1) := by decide +kernel
theorem d_MM_action_61 : decode b_MM_action 61 = .ok (.iconst 4, 1) := by decide +kernel
theorem d_MM_action_62 : decode b_MM_action 62 = .ok (.iload_n 2, 1) := by decide +kernel
theorem d_MM_action_63 : decode b_MM_action 63 = .ok (.imul, 1) := by decide +kernel
theorem d_MM_action_64 : decode b_MM_action 64 = .ok (.iload_n 3, 1) := by decide +kernel
theorem d_MM_action_65 : decode b_MM_action 65 = .ok (.aload_n 0, 1) := by decide +kernel
theorem d_MM_action_66 : decode b_MM_action 66 = .ok (.getfield 38, 3) := by decide +kernel
theorem d_MM_action_69 : decode b_MM_action 69 = .ok (.iload_n 2, 1) := by decide +kernel
theorem d_MM_action_70 : decode b_MM_action 70 = .ok (.iaload, 1) := by decide +kernel
theorem d_MM_action_71 : decode b_MM_action 71 = .ok (.if_icmp .ge 7, 3) := by decide +kernel
theorem d_MM_action_74 : decode b_MM_action 74 = .ok (.iload_n 3, 1) := by decide +kernel
theorem d_MM_action_75 : decode b_MM_action 75 = .ok (.goto 11, 3) := by decide +kernel
theorem d_MM_action_78 : decode b_MM_action 78 = .ok (.aload_n 0, 1) := by decide +kernel
theorem d_MM_action_79 : decode b_MM_action 79 = .ok (.getfield 38, 3) := by decide +kernel
theorem d_MM_action_82 : decode b_MM_action 82 = .ok (.iload_n 2, 1) := by decide +kernel
theorem d_MM_action_83 : decode b_MM_action 83 = .ok (.iaload, 1) := by decide +kernel
theorem d_MM_action_84 : decode b_MM_action 84 = .ok (.iconst 1, 1) := by decide +kernel
theorem d_MM_action_85 : decode b_MM_action 85 = .ok (.isub, 1) := by decide +kernel
theorem d_MM_action_86 : decode b_MM_action 86 = .ok (.iadd, 1) := by decide +kernel
theorem d_MM_action_87 : decode b_MM_action 87 = .ok (.ireturn, 1) := by decide +kernel
theorem d_MM_ruleFits_0 : decode b_MM_ruleFits 0 = .ok (.aload_n 0, 1) := by decide +kernel
theorem d_MM_ruleFits_1 : decode b_MM_ruleFits 1 = .ok (.getfield 22, 3) := by decide +kernel
theorem d_MM_ruleFits_4 : decode b_MM_ruleFits 4 = .ok (.iload_n 1, 1) := by decide +kernel
theorem d_MM_ruleFits_5 : decode b_MM_ruleFits 5 = .ok (.baload, 1) := by decide +kernel
theorem d_MM_ruleFits_6 : decode b_MM_ruleFits 6 = .ok (.ifCond .eq 33, 3) := by decide +kernel
theorem d_MM_ruleFits_9 : decode b_MM_ruleFits 9 = .ok (.aload_n 0, 1) := by decide +kernel
theorem d_MM_ruleFits_10 : decode b_MM_ruleFits 10 = .ok (.getfield 16, 3) := by decide +kernel
theorem d_MM_ruleFits_13 : decode b_MM_ruleFits 13 = .ok (.iload_n 1, 1) := by decide +kernel
theorem d_MM_ruleFits_14 : decode b_MM_ruleFits 14 = .ok (.iaload, 1) := by decide +kernel
theorem d_MM_ruleFits_15 : decode b_MM_ruleFits 15 = .ok (.aload_n 0, 1) := by decide +kernel
theorem d_MM_ruleFits_16 : decode b_MM_ruleFits 16 = .ok (.getfield 44, 3) := by decide +kernel
theorem d_MM_ruleFits_19 : decode b_MM_ruleFits 19 = .ok (.iload_n 2, 1) := by decide +kernel
theorem d_MM_ruleFits_20 : decode b_MM_ruleFits 20 = .ok (.iaload, 1) := by decide +kernel
theorem d_MM_ruleFits_21 : decode b_MM_ruleFits 21 = .ok (.if_icmp .ne 18, 3) := by decide +kernel
theorem d_MM_ruleFits_24 : decode b_MM_ruleFits 24 = .ok (.aload_n 0, 1) := by decide +kernel
theorem d_MM_ruleFits_25 : decode b_MM_ruleFits 25 = .ok (.getfield 19, 3) := by decide +kernel
theorem d_MM_ruleFits_28 : decode b_MM_ruleFits 28 = .ok (.iload_n 1, 1) := by decide +kernel
theorem d_MM_ruleFits_29 : decode b_MM_ruleFits 29 = .ok (.iaload, 1) := by decide +kernel
theorem d_MM_ruleFits_30 : decode b_MM_ruleFits 30 = .ok (.aload_n 0, 1) := by decide +kernel
theorem d_MM_ruleFits_31 : decode b_MM_ruleFits 31 = .ok (.getfield 47, 3) := by decide +kernel
theorem d_MM_ruleFits_34 : decode b_MM_ruleFits 34 = .ok (.iload_n 2, 1) := by decide +kernel
theorem d_MM_ruleFits_35 : decode b_MM_ruleFits 35 = .ok (.iaload, 1) := by decide +kernel
theorem d_MM_ruleFits_36 : decode b_MM_ruleFits 36 = .ok (.if_icmp .eq 5, 3) := by decide +kernel
theorem d_MM_ruleFits_39 : decode b_MM_ruleFits 39 = .ok (.iconst 0, 1) := by decide +kernel
theorem d_MM_ruleFits_40 : decode b_MM_ruleFits 40 = .ok (.ireturn, 1) := by decide +kernel
theorem d_MM_ruleFits_41 : decode b_MM_ruleFits 41 = .ok (.iconst 0, 1) := by decide +kernel
theorem d_MM_ruleFits_42 : decode b_MM_ruleFits 42 = .ok (.istore_n 3, 1) := by decide +kernel
theorem d_MM_ruleFits_43 : decode b_MM_ruleFits 43 = .ok (.iload_n 3, 1) := by decide +kernel
theorem d_MM_ruleFits_44 : decode b_MM_ruleFits 44 = .ok (.aload_n 0, 1) := by decide +kernel
theorem d_MM_ruleFits_45 : decode b_MM_ruleFits 45 = .ok (.getfield 19, 3) := by decide +kernel
theorem d_MM_ruleFits_48 : decode b_MM_ruleFits 48 = .ok (.iload_n 1, 1) := by decide +kernel
theorem d_MM_ruleFits_49 : decode b_MM_ruleFits 49 = .ok (.iaload, 1) := by decide +kernel
theorem d_MM_ruleFits_50 : decode b_MM_ruleFits 50 = .ok (.iconst 4, 1) := by decide +kernel
theorem d_MM_ruleFits_51 : decode b_MM_ruleFits 51 = .ok (.irem, 1) := by decide +kernel
theorem d_MM_ruleFits_52 : decode b_MM_ruleFits 52 = .ok (.if_icmp .ge 47, 3) := by decide +kernel
theorem d_MM_ruleFits_55 : decode b_MM_ruleFits 55 = .ok (.aload_n 0, 1) := by decide +kernel
theorem d_MM_ruleFits_56 : decode b_MM_ruleFits 56 = .ok (.getfield 26, 3) := by decide +kernel
theorem d_MM_ruleFits_59 : decode b_MM_ruleFits 59 = .ok (.iconst 3, 1) := by decide +kernel
theorem d_MM_ruleFits_60 : decode b_MM_ruleFits 60 = .ok (.iload_n 1, 1) := by decide +kernel
theorem d_MM_ruleFits_61 : decode b_MM_ruleFits 61 = .ok (.imul, 1) := by decide +kernel
theorem d_MM_ruleFits_62 : decode b_MM_ruleFits 62 = .ok (.iload_n 3, 1) := by decide +kernel
theorem d_MM_ruleFits_63 : decode b_MM_ruleFits 63 = .ok (.iadd, 1) := by decide +kernel
theorem d_MM_ruleFits_64 : decode b_MM_ruleFits 64 = .ok (.iaload, 1) := by decide +kernel
theorem d_MM_ruleFits_65 : decode b_MM_ruleFits 65 = .ok (.aload_n 0, 1) := by decide +kernel
theorem d_MM_ruleFits_66 : decode b_MM_ruleFits 66 = .ok (.getfield 29, 3) := by decide +kernel
theorem d_MM_ruleFits_69 : decode b_MM_ruleFits 69 = .ok (.iconst 3, 1) := by decide +kernel
theorem d_MM_ruleFits_70 : decode b_MM_ruleFits 70 = .ok (.iload_n 1, 1) := by decide +kernel
theorem d_MM_ruleFits_71 : decode b_MM_ruleFits 71 = .ok (.imul, 1) := by decide +kernel
theorem d_MM_ruleFits_72 : decode b_MM_ruleFits 72 = .ok (.iload_n 3, 1) := by decide +kernel
theorem d_MM_ruleFits_73 : decode b_MM_ruleFits 73 = .ok (.iadd, 1) := by decide +kernel
theorem d_MM_ruleFits_74 : decode b_MM_ruleFits 74 = .ok (.iaload, 1) := by decide +kernel
theorem d_MM_ruleFits_75 : decode b_MM_ruleFits 75 = .ok (.aload_n 0, 1) := by decide +kernel
theorem d_MM_ruleFits_76 : decode b_MM_ruleFits 76 = .ok (.getfield 50, 3) := by decide +kernel
theorem d_MM_ruleFits_79 : decode b_MM_ruleFits 79 = .ok (.iconst 3, 1) := by decide +kernel
theorem d_MM_ruleFits_80 : decode b_MM_ruleFits 80 = .ok (.iload_n 2, 1) := by decide +kernel
theorem d_MM_ruleFits_81 : decode b_MM_ruleFits 81 = .ok (.imul, 1) := by decide +kernel
theorem d_MM_ruleFits_82 : decode b_MM_ruleFits 82 = .ok (.iload_n 3, 1) := by decide +kernel
theorem d_MM_ruleFits_83 : decode b_MM_ruleFits 83 = .ok (.iadd, 1) := by decide +kernel
theorem d_MM_ruleFits_84 : decode b_MM_ruleFits 84 = .ok (.iaload, 1) := by decide +kernel
theorem d_MM_ruleFits_85 : decode b_MM_ruleFits 85 = .ok (.invokestatic 86, 3) := by decide +kernel
theorem d_MM_ruleFits_88 : decode b_MM_ruleFits 88 = .ok (.ifCond .ne 5, 3) := by decide +kernel
theorem d_MM_ruleFits_91 : decode b_MM_ruleFits 91 = .ok (.iconst 0, 1) := by decide +kernel
theorem d_MM_ruleFits_92 : decode b_MM_ruleFits 92 = .ok (.ireturn, 1) := by decide +kernel
theorem d_MM_ruleFits_93 : decode b_MM_ruleFits 93 = .ok (.iinc 3 1, 3) := by decide +kernel
theorem d_MM_ruleFits_96 : decode b_MM_ruleFits 96 = .ok (.goto (-53), 3) := by decide +kernel
theorem d_MM_ruleFits_99 : decode b_MM_ruleFits 99 = .ok (.iconst 1, 1) := by decide +kernel
theorem d_MM_ruleFits_100 : decode b_MM_ruleFits 100 = .ok (.ireturn, 1) := by decide +kernel
theorem d_MM_fits_0 : decode b_MM_fits 0 = .ok (.iload_n 0, 1) := by decide +kernel
theorem d_MM_fits_1 : decode b_MM_fits 1 = .ok (.tableswitch 81 0 4 #[35, 37, 48, 59, 70], 35) := by decide +kernel
theorem d_MM_fits_36 : decode b_MM_fits 36 = .ok (.iconst 1, 1) := by decide +kernel
theorem d_MM_fits_37 : decode b_MM_fits 37 = .ok (.ireturn, 1) := by decide +kernel
theorem d_MM_fits_38 : decode b_MM_fits 38 = .ok (.iload_n 2, 1) := by decide +kernel
theorem d_MM_fits_39 : decode b_MM_fits 39 = .ok (.iload_n 1, 1) := by decide +kernel
theorem d_MM_fits_40 : decode b_MM_fits 40 = .ok (.if_icmp .ne 7, 3) := by decide +kernel
theorem d_MM_fits_43 : decode b_MM_fits 43 = .ok (.iconst 1, 1) := by decide +kernel
theorem d_MM_fits_44 : decode b_MM_fits 44 = .ok (.goto 4, 3) := by decide +kernel
theorem d_MM_fits_47 : decode b_MM_fits 47 = .ok (.iconst 0, 1) := by decide +kernel
theorem d_MM_fits_48 : decode b_MM_fits 48 = .ok (.ireturn, 1) := by decide +kernel
theorem d_MM_fits_49 : decode b_MM_fits 49 = .ok (.iload_n 2, 1) := by decide +kernel
theorem d_MM_fits_50 : decode b_MM_fits 50 = .ok (.iload_n 1, 1) := by decide +kernel
theorem d_MM_fits_51 : decode b_MM_fits 51 = .ok (.if_icmp .eq 7, 3) := by decide +kernel
theorem d_MM_fits_54 : decode b_MM_fits 54 = .ok (.iconst 1, 1) := by decide +kernel
theorem d_MM_fits_55 : decode b_MM_fits 55 = .ok (.goto 4, 3) := by decide +kernel
theorem d_MM_fits_58 : decode b_MM_fits 58 = .ok (.iconst 0, 1) := by decide +kernel
theorem d_MM_fits_59 : decode b_MM_fits 59 = .ok (.ireturn, 1) := by decide +kernel
theorem d_MM_fits_60 : decode b_MM_fits 60 = .ok (.iload_n 2, 1) := by decide +kernel
theorem d_MM_fits_61 : decode b_MM_fits 61 = .ok (.iload_n 1, 1) := by decide +kernel
theorem d_MM_fits_62 : decode b_MM_fits 62 = .ok (.if_icmp .ge 7, 3) := by decide +kernel
theorem d_MM_fits_65 : decode b_MM_fits 65 = .ok (.iconst 1, 1) := by decide +kernel
theorem d_MM_fits_66 : decode b_MM_fits 66 = .ok (.goto 4, 3) := by decide +kernel
theorem d_MM_fits_69 : decode b_MM_fits 69 = .ok (.iconst 0, 1) := by decide +kernel
theorem d_MM_fits_70 : decode b_MM_fits 70 = .ok (.ireturn, 1) := by decide +kernel
theorem d_MM_fits_71 : decode b_MM_fits 71 = .ok (.iload_n 2, 1) := by decide +kernel
theorem d_MM_fits_72 : decode b_MM_fits 72 = .ok (.iload_n 1, 1) := by decide +kernel
theorem d_MM_fits_73 : decode b_MM_fits 73 = .ok (.if_icmp .le 7, 3) := by decide +kernel
theorem d_MM_fits_76 : decode b_MM_fits 76 = .ok (.iconst 1, 1) := by decide +kernel
theorem d_MM_fits_77 : decode b_MM_fits 77 = .ok (.goto 4, 3) := by decide +kernel
theorem d_MM_fits_80 : decode b_MM_fits 80 = .ok (.iconst 0, 1) := by decide +kernel
theorem d_MM_fits_81 : decode b_MM_fits 81 = .ok (.ireturn, 1) := by decide +kernel
theorem d_MM_fits_82 : decode b_MM_fits 82 = .ok (.iload_n 2, 1) := by decide +kernel
theorem d_MM_fits_83 : decode b_MM_fits 83 = .ok (.iconst 3, 1) := by decide +kernel
theorem d_MM_fits_84 : decode b_MM_fits 84 = .ok (.iand, 1) := by decide +kernel
theorem d_MM_fits_85 : decode b_MM_fits 85 = .ok (.iload_n 1, 1) := by decide +kernel
theorem d_MM_fits_86 : decode b_MM_fits 86 = .ok (.iconst 3, 1) := by decide +kernel
theorem d_MM_fits_87 : decode b_MM_fits 87 = .ok (.iand, 1) := by decide +kernel
theorem d_MM_fits_88 : decode b_MM_fits 88 = .ok (.if_icmp .ne 7, 3) := by decide +kernel
theorem d_MM_fits_91 : decode b_MM_fits 91 = .ok (.iconst 1, 1) := by decide +kernel
theorem d_MM_fits_92 : decode b_MM_fits 92 = .ok (.goto 4, 3) := by decide +kernel
theorem d_MM_fits_95 : decode b_MM_fits 95 = .ok (.iconst 0, 1) := by decide +kernel
theorem d_MM_fits_96 : decode b_MM_fits 96 = .ok (.ireturn, 1) := by decide +kernel
theorem d_MM_uses_0 : decode b_MM_uses 0 = .ok (.iconst 0, 1) := by decide +kernel
theorem d_MM_uses_1 : decode b_MM_uses 1 = .ok (.istore_n 3, 1) := by decide +kernel
theorem d_MM_uses_2 : decode b_MM_uses 2 = .ok (.iconst 0, 1) := by decide +kernel
theorem d_MM_uses_3 : decode b_MM_uses 3 = .ok (.istore 4, 2) := by decide +kernel
theorem d_MM_uses_5 : decode b_MM_uses 5 = .ok (.iload 4, 2) := by decide +kernel
theorem d_MM_uses_7 : decode b_MM_uses 7 = .ok (.iload_n 2, 1) := by decide +kernel
theorem d_MM_uses_8 : decode b_MM_uses 8 = .ok (.if_icmp .ge 23, 3) := by decide +kernel
theorem d_MM_uses_11 : decode b_MM_uses 11 = .ok (.aload_n 0, 1) := by decide +kernel
theorem d_MM_uses_12 : decode b_MM_uses 12 = .ok (.getfield 59, 3) := by decide +kernel
theorem d_MM_uses_15 : decode b_MM_uses 15 = .ok (.iload 4, 2) := by decide +kernel
theorem d_MM_uses_17 : decode b_MM_uses 17 = .ok (.iaload, 1) := by decide +kernel
theorem d_MM_uses_18 : decode b_MM_uses 18 = .ok (.iload_n 1, 1) := by decide +kernel
theorem d_MM_uses_19 : decode b_MM_uses 19 = .ok (.if_icmp .ne 6, 3) := by decide +kernel
theorem d_MM_uses_22 : decode b_MM_uses 22 = .ok (.iinc 3 1, 3) := by decide +kernel
theorem d_MM_uses_25 : decode b_MM_uses 25 = .ok (.iinc 4 1, 3) := by decide +kernel
theorem d_MM_uses_28 : decode b_MM_uses 28 = .ok (.goto (-23), 3) := by decide +kernel
theorem d_MM_uses_31 : decode b_MM_uses 31 = .ok (.iload_n 3, 1) := by decide +kernel
theorem d_MM_uses_32 : decode b_MM_uses 32 = .ok (.ireturn, 1) := by decide +kernel
theorem d_MM_plain_0 : decode b_MM_plain 0 = .ok (.iload_n 2, 1) := by decide +kernel
theorem d_MM_plain_1 : decode b_MM_plain 1 = .ok (.ifCond .ge 34, 3) := by decide +kernel
theorem d_MM_plain_4 : decode b_MM_plain 4 = .ok (.aload_n 0, 1) := by decide +kernel
theorem d_MM_plain_5 : decode b_MM_plain 5 = .ok (.getfield 59, 3) := by decide +kernel
theorem d_MM_plain_8 : decode b_MM_plain 8 = .ok (.iload_n 1, 1) := by decide +kernel
theorem d_MM_plain_9 : decode b_MM_plain 9 = .ok (.iaload, 1) := by decide +kernel
theorem d_MM_plain_10 : decode b_MM_plain 10 = .ok (.ifCond .ge 23, 3) := by decide +kernel
theorem d_MM_plain_13 : decode b_MM_plain 13 = .ok (.aload_n 0, 1) := by decide +kernel
theorem d_MM_plain_14 : decode b_MM_plain 14 = .ok (.getfield 41, 3) := by decide +kernel
theorem d_MM_plain_17 : decode b_MM_plain 17 = .ok (.aload_n 0, 1) := by decide +kernel
theorem d_MM_plain_18 : decode b_MM_plain 18 = .ok (.getfield 44, 3) := by decide +kernel
theorem d_MM_plain_21 : decode b_MM_plain 21 = .ok (.iload_n 1, 1) := by decide +kernel
theorem d_MM_plain_22 : decode b_MM_plain 22 = .ok (.iaload, 1) := by decide +kernel
theorem d_MM_plain_23 : decode b_MM_plain 23 = .ok (.baload, 1) := by decide +kernel
theorem d_MM_plain_24 : decode b_MM_plain 24 = .ok (.ifCond .eq 9, 3) := by decide +kernel
theorem d_MM_plain_27 : decode b_MM_plain 27 = .ok (.ldc2_w 100, 3) := by decide +kernel
theorem d_MM_plain_30 : decode b_MM_plain 30 = .ok (.goto 4, 3) := by decide +kernel
theorem d_MM_plain_33 : decode b_MM_plain 33 = .ok (.lconst 0, 1) := by decide +kernel
theorem d_MM_plain_34 : decode b_MM_plain 34 = .ok (.lreturn, 1) := by decide +kernel
theorem d_MM_plain_35 : decode b_MM_plain 35 = .ok (.aload_n 0, 1) := by decide +kernel
theorem d_MM_plain_36 : decode b_MM_plain 36 = .ok (.getfield 32, 3) := by decide +kernel
theorem d_MM_plain_39 : decode b_MM_plain 39 = .ok (.iload_n 2, 1) := by decide +kernel
theorem d_MM_plain_40 : decode b_MM_plain 40 = .ok (.iaload, 1) := by decide +kernel
theorem d_MM_plain_41 : decode b_MM_plain 41 = .ok (.tableswitch 81 0 3 #[31, 39, 56, 69], 31) := by decide +kernel
theorem d_MM_plain_72 : decode b_MM_plain 72 = .ok (.aload_n 0, 1) := by decide +kernel
theorem d_MM_plain_73 : decode b_MM_plain 73 = .ok (.getfield 35, 3) := by decide +kernel
theorem d_MM_plain_76 : decode b_MM_plain 76 = .ok (.iload_n 2, 1) := by decide +kernel
theorem d_MM_plain_77 : decode b_MM_plain 77 = .ok (.iaload, 1) := by decide +kernel
theorem d_MM_plain_78 : decode b_MM_plain 78 = .ok (.i2l, 1) := by decide +kernel
theorem d_MM_plain_79 : decode b_MM_plain 79 = .ok (.lreturn, 1) := by decide +kernel
theorem d_MM_plain_80 : decode b_MM_plain 80 = .ok (.aload_n 0, 1) := by decide +kernel
theorem d_MM_plain_81 : decode b_MM_plain 81 = .ok (.getfield 50, 3) := by decide +kernel
theorem d_MM_plain_84 : decode b_MM_plain 84 = .ok (.iconst 3, 1) := by decide +kernel
theorem d_MM_plain_85 : decode b_MM_plain 85 = .ok (.iload_n 1, 1) := by decide +kernel
theorem d_MM_plain_86 : decode b_MM_plain 86 = .ok (.imul, 1) := by decide +kernel
theorem d_MM_plain_87 : decode b_MM_plain 87 = .ok (.aload_n 0, 1) := by decide +kernel
theorem d_MM_plain_88 : decode b_MM_plain 88 = .ok (.getfield 35, 3) := by decide +kernel
theorem d_MM_plain_91 : decode b_MM_plain 91 = .ok (.iload_n 2, 1) := by decide +kernel
theorem d_MM_plain_92 : decode b_MM_plain 92 = .ok (.iaload, 1) := by decide +kernel
theorem d_MM_plain_93 : decode b_MM_plain 93 = .ok (.iadd, 1) := by decide +kernel
theorem d_MM_plain_94 : decode b_MM_plain 94 = .ok (.iaload, 1) := by decide +kernel
theorem d_MM_plain_95 : decode b_MM_plain 95 = .ok (.i2l, 1) := by decide +kernel
theorem d_MM_plain_96 : decode b_MM_plain 96 = .ok (.lreturn, 1) := by decide +kernel
theorem d_MM_plain_97 : decode b_MM_plain 97 = .ok (.aload_n 0, 1) := by decide +kernel
theorem d_MM_plain_98 : decode b_MM_plain 98 = .ok (.aload_n 0, 1) := by decide +kernel
theorem d_MM_plain_99 : decode b_MM_plain 99 = .ok (.getfield 59, 3) := by decide +kernel
theorem d_MM_plain_102 : decode b_MM_plain 102 = .ok (.iload_n 1, 1) := by decide +kernel
theorem d_MM_plain_103 : decode b_MM_plain 103 = .ok (.iaload, 1) := by decide +kernel
theorem d_MM_plain_104 : decode b_MM_plain 104 = .ok (.iload_n 1, 1) := by decide +kernel
theorem d_MM_plain_105 : decode b_MM_plain 105 = .ok (.invokevirtual 96, 3) := by decide +kernel
theorem d_MM_plain_108 : decode b_MM_plain 108 = .ok (.i2l, 1) := by decide +kernel
theorem d_MM_plain_109 : decode b_MM_plain 109 = .ok (.lreturn, 1) := by decide +kernel
theorem d_MM_plain_110 : decode b_MM_plain 110 = .ok (.ldc2_w 102, 3) := by decide +kernel
theorem d_MM_plain_113 : decode b_MM_plain 113 = .ok (.aload_n 0, 1) := by decide +kernel
theorem d_MM_plain_114 : decode b_MM_plain 114 = .ok (.getfield 35, 3) := by decide +kernel
theorem d_MM_plain_117 : decode b_MM_plain 117 = .ok (.iload_n 2, 1) := by decide +kernel
theorem d_MM_plain_118 : decode b_MM_plain 118 = .ok (.iaload, 1) := by decide +kernel
theorem d_MM_plain_119 : decode b_MM_plain 119 = .ok (.i2l, 1) := by decide +kernel
theorem d_MM_plain_120 : decode b_MM_plain 120 = .ok (.ladd, 1) := by decide +kernel
theorem d_MM_plain_121 : decode b_MM_plain 121 = .ok (.lreturn, 1) := by decide +kernel
theorem d_MM_plain_122 : decode b_MM_plain 122 = .ok (.ldc2_w 104, 3) := by decide +kernel
theorem d_MM_plain_125 : decode b_MM_plain 125 = .ok (.lreturn, 1) := by decide +kernel
theorem d_MM_verify_0 : decode b_MM_verify 0 = .ok (.iload_n 1, 1) := by decide +kernel
theorem d_MM_verify_1 : decode b_MM_verify 1 = .ok (.iload_n 2, 1) := by decide +kernel
theorem d_MM_verify_2 : decode b_MM_verify 2 = .ok (.invokestatic 79, 3) := by decide +kernel
theorem d_MM_verify_5 : decode b_MM_verify 5 = .ok (.ifCond .ne 22, 3) := by decide +kernel
theorem d_MM_verify_8 : decode b_MM_verify 8 = .ok (.iload_n 3, 1) := by decide +kernel
theorem d_MM_verify_9 : decode b_MM_verify 9 = .ok (.ifCond .lt 18, 3) := by decide +kernel
theorem d_MM_verify_12 : decode b_MM_verify 12 = .ok (.iload_n 3, 1) := by decide +kernel
theorem d_MM_verify_13 : decode b_MM_verify 13 = .ok (.iconst 2, 1) := by decide +kernel
theorem d_MM_verify_14 : decode b_MM_verify 14 = .ok (.if_icmp .gt 13, 3) := by decide +kernel
theorem d_MM_verify_17 : decode b_MM_verify 17 = .ok (.aload_n 0, 1) := by decide +kernel
theorem d_MM_verify_18 : decode b_MM_verify 18 = .ok (.getfield 76, 3) := by decide +kernel
theorem d_MM_verify_21 : decode b_MM_verify 21 = .ok (.iload_n 2, 1) := by decide +kernel
theorem d_MM_verify_22 : decode b_MM_verify 22 = .ok (.iconst 4, 1) := by decide +kernel
theorem d_MM_verify_23 : decode b_MM_verify 23 = .ok (.irem, 1) := by decide +kernel
theorem d_MM_verify_24 : decode b_MM_verify 24 = .ok (.if_icmp .eq 5, 3) := by decide +kernel
theorem d_MM_verify_27 : decode b_MM_verify 27 = .ok (.iconst (-1), 1) := by decide +kernel
theorem d_MM_verify_28 : decode b_MM_verify 28 = .ok (.ireturn, 1) := by decide +kernel
theorem d_MM_verify_29 : decode b_MM_verify 29 = .ok (.iconst 0, 1) := by decide +kernel
theorem d_MM_verify_30 : decode b_MM_verify 30 = .ok (.istore 5, 2) := by decide +kernel
theorem d_MM_verify_32 : decode b_MM_verify 32 = .ok (.iconst 0, 1) := by decide +kernel
theorem d_MM_verify_33 : decode b_MM_verify 33 = .ok (.istore 6, 2) := by decide +kernel
theorem d_MM_verify_35 : decode b_MM_verify 35 = .ok (.iload 6, 2) := by decide +kernel
theorem d_MM_verify_37 : decode b_MM_verify 37 = .ok (.aload_n 0, 1) := by decide +kernel
theorem d_MM_verify_38 : decode b_MM_verify 38 = .ok (.getfield 90, 3) := by decide +kernel
theorem d_MM_verify_41 : decode b_MM_verify 41 = .ok (.if_icmp .ge 23, 3) := by decide +kernel
theorem d_MM_verify_44 : decode b_MM_verify 44 = .ok (.aload_n 0, 1) := by decide +kernel
theorem d_MM_verify_45 : decode b_MM_verify 45 = .ok (.iload 6, 2) := by decide +kernel
theorem d_MM_verify_47 : decode b_MM_verify 47 = .ok (.iload_n 1, 1) := by decide +kernel
theorem d_MM_verify_48 : decode b_MM_verify 48 = .ok (.iload_n 2, 1) := by decide +kernel
theorem d_MM_verify_49 : decode b_MM_verify 49 = .ok (.invokevirtual 120, 3) := by decide +kernel
theorem d_MM_verify_52 : decode b_MM_verify 52 = .ok (.ifCond .eq 6, 3) := by decide +kernel
theorem d_MM_verify_55 : decode b_MM_verify 55 = .ok (.iinc 5 1, 3) := by decide +kernel
theorem d_MM_verify_58 : decode b_MM_verify 58 = .ok (.iinc 6 1, 3) := by decide +kernel
theorem d_MM_verify_61 : decode b_MM_verify 61 = .ok (.goto (-26), 3) := by decide +kernel
theorem d_MM_verify_64 : decode b_MM_verify 64 = .ok (.iload_n 3, 1) := by decide +kernel
theorem d_MM_verify_65 : decode b_MM_verify 65 = .ok (.ifCond .ne 18, 3) := by decide +kernel
theorem d_MM_verify_68 : decode b_MM_verify 68 = .ok (.iload 5, 2) := by decide +kernel
theorem d_MM_verify_70 : decode b_MM_verify 70 = .ok (.iload 4, 2) := by decide +kernel
theorem d_MM_verify_72 : decode b_MM_verify 72 = .ok (.if_icmp .ne 7, 3) := by decide +kernel
theorem d_MM_verify_75 : decode b_MM_verify 75 = .ok (.iconst 1, 1) := by decide +kernel
theorem d_MM_verify_76 : decode b_MM_verify 76 = .ok (.goto 39, 3) := by decide +kernel
theorem d_MM_verify_79 : decode b_MM_verify 79 = .ok (.iconst 0, 1) := by decide +kernel
theorem d_MM_verify_80 : decode b_MM_verify 80 = .ok (.goto 35, 3) := by decide +kernel
theorem d_MM_verify_83 : decode b_MM_verify 83 = .ok (.iload_n 3, 1) := by decide +kernel
theorem d_MM_verify_84 : decode b_MM_verify 84 = .ok (.iconst 1, 1) := by decide +kernel
theorem d_MM_verify_85 : decode b_MM_verify 85 = .ok (.if_icmp .ne 18, 3) := by decide +kernel
theorem d_MM_verify_88 : decode b_MM_verify 88 = .ok (.iload 5, 2) := by decide +kernel
theorem d_MM_verify_90 : decode b_MM_verify 90 = .ok (.iload 4, 2) := by decide +kernel
theorem d_MM_verify_92 : decode b_MM_verify 92 = .ok (.if_icmp .lt 7, 3) := by decide +kernel
theorem d_MM_verify_95 : decode b_MM_verify 95 = .ok (.iconst 1, 1) := by decide +kernel
theorem d_MM_verify_96 : decode b_MM_verify 96 = .ok (.goto 19, 3) := by decide +kernel
theorem d_MM_verify_99 : decode b_MM_verify 99 = .ok (.iconst 0, 1) := by decide +kernel
theorem d_MM_verify_100 : decode b_MM_verify 100 = .ok (.goto 15, 3) := by decide +kernel
theorem d_MM_verify_103 : decode b_MM_verify 103 = .ok (.iload 5, 2) := by decide +kernel
theorem d_MM_verify_105 : decode b_MM_verify 105 = .ok (.iload 4, 2) := by decide +kernel
theorem d_MM_verify_107 : decode b_MM_verify 107 = .ok (.if_icmp .gt 7, 3) := by decide +kernel
theorem d_MM_verify_110 : decode b_MM_verify 110 = .ok (.iconst 1, 1) := by decide +kernel
theorem d_MM_verify_111 : decode b_MM_verify 111 = .ok (.goto 4, 3) := by decide +kernel
theorem d_MM_verify_114 : decode b_MM_verify 114 = .ok (.iconst 0, 1) := by decide +kernel
theorem d_MM_verify_115 : decode b_MM_verify 115 = .ok (.istore 6, 2) := by decide +kernel
theorem d_MM_verify_117 : decode b_MM_verify 117 = .ok (.iconst 0, 1) := by decide +kernel
theorem d_MM_verify_118 : decode b_MM_verify 118 = .ok (.istore 7, 2) := by decide +kernel
theorem d_MM_verify_120 : decode b_MM_verify 120 = .ok (.iload 7, 2) := by decide +kernel
theorem d_MM_verify_122 : decode b_MM_verify 122 = .ok (.aload_n 0, 1) := by decide +kernel
theorem d_MM_verify_123 : decode b_MM_verify 123 = .ok (.getfield 90, 3) := by decide +kernel
theorem d_MM_verify_126 : decode b_MM_verify 126 = .ok (.if_icmp .ge 33, 3) := by decide +kernel
theorem d_MM_verify_129 : decode b_MM_verify 129 = .ok (.iload 6, 2) := by decide +kernel
theorem d_MM_verify_131 : decode b_MM_verify 131 = .ok (.ifCond .eq 28, 3) := by decide +kernel
theorem d_MM_verify_134 : decode b_MM_verify 134 = .ok (.aload_n 0, 1) := by decide +kernel
theorem d_MM_verify_135 : decode b_MM_verify 135 = .ok (.iload 7, 2) := by decide +kernel
theorem d_MM_verify_137 : decode b_MM_verify 137 = .ok (.iload_n 1, 1) := by decide +kernel
theorem d_MM_verify_138 : decode b_MM_verify 138 = .ok (.iload_n 2, 1) := by decide +kernel
theorem d_MM_verify_139 : decode b_MM_verify 139 = .ok (.invokevirtual 120, 3) := by decide +kernel
theorem d_MM_verify_142 : decode b_MM_verify 142 = .ok (.ifCond .eq 11, 3) := by decide +kernel
theorem d_MM_verify_145 : decode b_MM_verify 145 = .ok (.aload_n 0, 1) := by decide +kernel
theorem d_MM_verify_146 : decode b_MM_verify 146 = .ok (.getfield 69, 3) := by decide +kernel
theorem d_MM_verify_149 : decode b_MM_verify 149 = .ok (.iload 7, 2) := by decide +kernel
theorem d_MM_verify_151 : decode b_MM_verify 151 = .ok (.iconst 1, 1) := by decide +kernel
theorem d_MM_verify_152 : decode b_MM_verify 152 = .ok (.bastore, 1) := by decide +kernel
theorem d_MM_verify_153 : decode b_MM_verify 153 = .ok (.iinc 7 1, 3) := by decide +kernel
theorem d_MM_verify_156 : decode b_MM_verify 156 = .ok (.goto (-36), 3) := by decide +kernel
theorem d_MM_verify_159 : decode b_MM_verify 159 = .ok (.aload_n 0, 1) := by decide +kernel
theorem d_MM_verify_160 : decode b_MM_verify 160 = .ok (.iconst 0, 1) := by decide +kernel
theorem d_MM_verify_161 : decode b_MM_verify 161 = .ok (.putfield 76, 3) := by decide +kernel
theorem d_MM_verify_164 : decode b_MM_verify 164 = .ok (.iload 6, 2) := by decide +kernel
theorem d_MM_verify_166 : decode b_MM_verify 166 = .ok (.ifCond .eq 8, 3) := by decide +kernel
theorem d_MM_verify_169 : decode b_MM_verify 169 = .ok (.iload 5, 2) := by decide +kernel
theorem d_MM_verify_171 : decode b_MM_verify 171 = .ok (.goto 8, 3) := by decide +kernel
theorem d_MM_verify_174 : decode b_MM_verify 174 = .ok (.bipush (-10), 2) := by decide +kernel
theorem d_MM_verify_176 : decode b_MM_verify 176 = .ok (.iload 5, 2) := by decide +kernel
theorem d_MM_verify_178 : decode b_MM_verify 178 = .ok (.isub, 1) := by decide +kernel
theorem d_MM_verify_179 : decode b_MM_verify 179 = .ok (.ireturn, 1) := by decide +kernel
theorem d_MM_asked_0 : decode b_MM_asked 0 = .ok (.aload_n 0, 1) := by decide +kernel
theorem d_MM_asked_1 : decode b_MM_asked 1 = .ok (.getfield 66, 3) := by decide +kernel
theorem d_MM_asked_4 : decode b_MM_asked 4 = .ok (.iload_n 1, 1) := by decide +kernel
theorem d_MM_asked_5 : decode b_MM_asked 5 = .ok (.baload, 1) := by decide +kernel
theorem d_MM_asked_6 : decode b_MM_asked 6 = .ok (.ifCond .eq 23, 3) := by decide +kernel
theorem d_MM_asked_9 : decode b_MM_asked 9 = .ok (.aload_n 0, 1) := by decide +kernel
theorem d_MM_asked_10 : decode b_MM_asked 10 = .ok (.getfield 44, 3) := by decide +kernel
theorem d_MM_asked_13 : decode b_MM_asked 13 = .ok (.iload_n 1, 1) := by decide +kernel
theorem d_MM_asked_14 : decode b_MM_asked 14 = .ok (.iaload, 1) := by decide +kernel
theorem d_MM_asked_15 : decode b_MM_asked 15 = .ok (.iload_n 2, 1) := by decide +kernel
theorem d_MM_asked_16 : decode b_MM_asked 16 = .ok (.if_icmp .ne 13, 3) := by decide +kernel
theorem d_MM_asked_19 : decode b_MM_asked 19 = .ok (.aload_n 0, 1) := by decide +kernel
theorem d_MM_asked_20 : decode b_MM_asked 20 = .ok (.getfield 47, 3) := by decide +kernel
theorem d_MM_asked_23 : decode b_MM_asked 23 = .ok (.iload_n 1, 1) := by decide +kernel
theorem d_MM_asked_24 : decode b_MM_asked 24 = .ok (.iaload, 1) := by decide +kernel
theorem d_MM_asked_25 : decode b_MM_asked 25 = .ok (.iload_n 3, 1) := by decide +kernel
theorem d_MM_asked_26 : decode b_MM_asked 26 = .ok (.if_icmp .eq 5, 3) := by decide +kernel
theorem d_MM_asked_29 : decode b_MM_asked 29 = .ok (.iconst 0, 1) := by decide +kernel
theorem d_MM_asked_30 : decode b_MM_asked 30 = .ok (.ireturn, 1) := by decide +kernel
theorem d_MM_asked_31 : decode b_MM_asked 31 = .ok (.iconst 0, 1) := by decide +kernel
theorem d_MM_asked_32 : decode b_MM_asked 32 = .ok (.istore 4, 2) := by decide +kernel
theorem d_MM_asked_34 : decode b_MM_asked 34 = .ok (.iload 4, 2) := by decide +kernel
theorem d_MM_asked_36 : decode b_MM_asked 36 = .ok (.aload_n 0, 1) := by decide +kernel
theorem d_MM_asked_37 : decode b_MM_asked 37 = .ok (.getfield 76, 3) := by decide +kernel
theorem d_MM_asked_40 : decode b_MM_asked 40 = .ok (.if_icmp .ge 42, 3) := by decide +kernel
theorem d_MM_asked_43 : decode b_MM_asked 43 = .ok (.aload_n 0, 1) := by decide +kernel
theorem d_MM_asked_44 : decode b_MM_asked 44 = .ok (.getfield 7, 3) := by decide +kernel
theorem d_MM_asked_47 : decode b_MM_asked 47 = .ok (.iload 4, 2) := by decide +kernel
theorem d_MM_asked_49 : decode b_MM_asked 49 = .ok (.iaload, 1) := by decide +kernel
theorem d_MM_asked_50 : decode b_MM_asked 50 = .ok (.aload_n 0, 1) := by decide +kernel
theorem d_MM_asked_51 : decode b_MM_asked 51 = .ok (.getfield 13, 3) := by decide +kernel
theorem d_MM_asked_54 : decode b_MM_asked 54 = .ok (.iload 4, 2) := by decide +kernel
theorem d_MM_asked_56 : decode b_MM_asked 56 = .ok (.iaload, 1) := by decide +kernel
theorem d_MM_asked_57 : decode b_MM_asked 57 = .ok (.aload_n 0, 1) := by decide +kernel
theorem d_MM_asked_58 : decode b_MM_asked 58 = .ok (.getfield 50, 3) := by decide +kernel
theorem d_MM_asked_61 : decode b_MM_asked 61 = .ok (.iconst 3, 1) := by decide +kernel
theorem d_MM_asked_62 : decode b_MM_asked 62 = .ok (.iload_n 1, 1) := by decide +kernel
theorem d_MM_asked_63 : decode b_MM_asked 63 = .ok (.imul, 1) := by decide +kernel
theorem d_MM_asked_64 : decode b_MM_asked 64 = .ok (.iload 4, 2) := by decide +kernel
theorem d_MM_asked_66 : decode b_MM_asked 66 = .ok (.iadd, 1) := by decide +kernel
theorem d_MM_asked_67 : decode b_MM_asked 67 = .ok (.iaload, 1) := by decide +kernel
theorem d_MM_asked_68 : decode b_MM_asked 68 = .ok (.invokestatic 86, 3) := by decide +kernel
theorem d_MM_asked_71 : decode b_MM_asked 71 = .ok (.ifCond .ne 5, 3) := by decide +kernel
theorem d_MM_asked_74 : decode b_MM_asked 74 = .ok (.iconst 0, 1) := by decide +kernel
theorem d_MM_asked_75 : decode b_MM_asked 75 = .ok (.ireturn, 1) := by decide +kernel
theorem d_MM_asked_76 : decode b_MM_asked 76 = .ok (.iinc 4 1, 3) := by decide +kernel
theorem d_MM_asked_79 : decode b_MM_asked 79 = .ok (.goto (-45), 3) := by decide +kernel
theorem d_MM_asked_82 : decode b_MM_asked 82 = .ok (.iconst 1, 1) := by decide +kernel
theorem d_MM_asked_83 : decode b_MM_asked 83 = .ok (.ireturn, 1) := by decide +kernel
theorem d_MM_inOrder_0 : decode b_MM_inOrder 0 = .ok (.iload_n 1, 1) := by decide +kernel
theorem d_MM_inOrder_1 : decode b_MM_inOrder 1 = .ok (.iload_n 2, 1) := by decide +kernel
theorem d_MM_inOrder_2 : decode b_MM_inOrder 2 = .ok (.invokestatic 79, 3) := by decide +kernel
theorem d_MM_inOrder_5 : decode b_MM_inOrder 5 = .ok (.ifCond .ne 13, 3) := by decide +kernel
theorem d_MM_inOrder_8 : decode b_MM_inOrder 8 = .ok (.aload_n 0, 1) := by decide +kernel
theorem d_MM_inOrder_9 : decode b_MM_inOrder 9 = .ok (.getfield 76, 3) := by decide +kernel
theorem d_MM_inOrder_12 : decode b_MM_inOrder 12 = .ok (.iload_n 2, 1) := by decide +kernel
theorem d_MM_inOrder_13 : decode b_MM_inOrder 13 = .ok (.iconst 4, 1) := by decide +kernel
theorem d_MM_inOrder_14 : decode b_MM_inOrder 14 = .ok (.irem, 1) := by decide +kernel
theorem d_MM_inOrder_15 : decode b_MM_inOrder 15 = .ok (.if_icmp .eq 5, 3) := by decide +kernel
theorem d_MM_inOrder_18 : decode b_MM_inOrder 18 = .ok (.iconst (-1), 1) := by decide +kernel
theorem d_MM_inOrder_19 : decode b_MM_inOrder 19 = .ok (.ireturn, 1) := by decide +kernel
theorem d_MM_inOrder_20 : decode b_MM_inOrder 20 = .ok (.bipush (-10), 2) := by decide +kernel
theorem d_MM_inOrder_22 : decode b_MM_inOrder 22 = .ok (.istore_n 3, 1) := by decide +kernel
theorem d_MM_inOrder_23 : decode b_MM_inOrder 23 = .ok (.aload_n 0, 1) := by decide +kernel
theorem d_MM_inOrder_24 : decode b_MM_inOrder 24 = .ok (.getfield 90, 3) := by decide +kernel
theorem d_MM_inOrder_27 : decode b_MM_inOrder 27 = .ok (.iconst 1, 1) := by decide +kernel
theorem d_MM_inOrder_28 : decode b_MM_inOrder 28 = .ok (.isub, 1) := by decide +kernel
theorem d_MM_inOrder_29 : decode b_MM_inOrder 29 = .ok (.istore 4, 2) := by decide +kernel
theorem d_MM_inOrder_31 : decode b_MM_inOrder 31 = .ok (.iload 4, 2) := by decide +kernel
theorem d_MM_inOrder_33 : decode b_MM_inOrder 33 = .ok (.aload_n 0, 1) := by decide +kernel
theorem d_MM_inOrder_34 : decode b_MM_inOrder 34 = .ok (.getfield 72, 3) := by decide +kernel
theorem d_MM_inOrder_37 : decode b_MM_inOrder 37 = .ok (.if_icmp .le 23, 3) := by decide +kernel
theorem d_MM_inOrder_40 : decode b_MM_inOrder 40 = .ok (.aload_n 0, 1) := by decide +kernel
theorem d_MM_inOrder_41 : decode b_MM_inOrder 41 = .ok (.iload 4, 2) := by decide +kernel
theorem d_MM_inOrder_43 : decode b_MM_inOrder 43 = .ok (.iload_n 1, 1) := by decide +kernel
theorem d_MM_inOrder_44 : decode b_MM_inOrder 44 = .ok (.iload_n 2, 1) := by decide +kernel
theorem d_MM_inOrder_45 : decode b_MM_inOrder 45 = .ok (.invokevirtual 120, 3) := by decide +kernel
theorem d_MM_inOrder_48 : decode b_MM_inOrder 48 = .ok (.ifCond .eq 6, 3) := by decide +kernel
theorem d_MM_inOrder_51 : decode b_MM_inOrder 51 = .ok (.iload 4, 2) := by decide +kernel
theorem d_MM_inOrder_53 : decode b_MM_inOrder 53 = .ok (.istore_n 3, 1) := by decide +kernel
theorem d_MM_inOrder_54 : decode b_MM_inOrder 54 = .ok (.iinc 4 (-1), 3) := by decide +kernel
theorem d_MM_inOrder_57 : decode b_MM_inOrder 57 = .ok (.goto (-26), 3) := by decide +kernel
theorem d_MM_inOrder_60 : decode b_MM_inOrder 60 = .ok (.aload_n 0, 1) := by decide +kernel
theorem d_MM_inOrder_61 : decode b_MM_inOrder 61 = .ok (.iconst 0, 1) := by decide +kernel
theorem d_MM_inOrder_62 : decode b_MM_inOrder 62 = .ok (.putfield 76, 3) := by decide +kernel
theorem d_MM_inOrder_65 : decode b_MM_inOrder 65 = .ok (.iload_n 3, 1) := by decide +kernel
theorem d_MM_inOrder_66 : decode b_MM_inOrder 66 = .ok (.bipush (-10), 2) := by decide +kernel
theorem d_MM_inOrder_68 : decode b_MM_inOrder 68 = .ok (.if_icmp .ne 6, 3) := by decide +kernel
theorem d_MM_inOrder_71 : decode b_MM_inOrder 71 = .ok (.bipush (-10), 2) := by decide +kernel
theorem d_MM_inOrder_73 : decode b_MM_inOrder 73 = .ok (.ireturn, 1) := by decide +kernel
theorem d_MM_inOrder_74 : decode b_MM_inOrder 74 = .ok (.aload_n 0, 1) := by decide +kernel
theorem d_MM_inOrder_75 : decode b_MM_inOrder 75 = .ok (.getfield 69, 3) := by decide +kernel
theorem d_MM_inOrder_78 : decode b_MM_inOrder 78 = .ok (.iload_n 3, 1) := by decide +kernel
theorem d_MM_inOrder_79 : decode b_MM_inOrder 79 = .ok (.iconst 1, 1) := by decide +kernel
theorem d_MM_inOrder_80 : decode b_MM_inOrder 80 = .ok (.bastore, 1) := by decide +kernel
theorem d_MM_inOrder_81 : decode b_MM_inOrder 81 = .ok (.aload_n 0, 1) := by decide +kernel
theorem d_MM_inOrder_82 : decode b_MM_inOrder 82 = .ok (.iload_n 3, 1) := by decide +kernel
theorem d_MM_inOrder_83 : decode b_MM_inOrder 83 = .ok (.putfield 72, 3) := by decide +kernel
theorem d_MM_inOrder_86 : decode b_MM_inOrder 86 = .ok (.iload_n 3, 1) := by decide +kernel
theorem d_MM_inOrder_87 : decode b_MM_inOrder 87 = .ok (.ireturn, 1) := by decide +kernel
theorem d_MM_rewind_0 : decode b_MM_rewind 0 = .ok (.aload_n 0, 1) := by decide +kernel
theorem d_MM_rewind_1 : decode b_MM_rewind 1 = .ok (.getfield 72, 3) := by decide +kernel
theorem d_MM_rewind_4 : decode b_MM_rewind 4 = .ok (.istore_n 1, 1) := by decide +kernel
theorem d_MM_rewind_5 : decode b_MM_rewind 5 = .ok (.aload_n 0, 1) := by decide +kernel
theorem d_MM_rewind_6 : decode b_MM_rewind 6 = .ok (.iconst (-1), 1) := by decide +kernel
theorem d_MM_rewind_7 : decode b_MM_rewind 7 = .ok (.putfield 72, 3) := by decide +kernel
theorem d_MM_rewind_10 : decode b_MM_rewind 10 = .ok (.iload_n 1, 1) := by decide +kernel
theorem d_MM_rewind_11 : decode b_MM_rewind 11 = .ok (.ireturn, 1) := by decide +kernel
theorem d_MM_open_0 : decode b_MM_open 0 = .ok (.iload_n 1, 1) := by decide +kernel
theorem d_MM_open_1 : decode b_MM_open 1 = .ok (.ifCond .lt 8, 3) := by decide +kernel
theorem d_MM_open_4 : decode b_MM_open 4 = .ok (.iload_n 1, 1) := by decide +kernel
theorem d_MM_open_5 : decode b_MM_open 5 = .ok (.iconst 3, 1) := by decide +kernel
theorem d_MM_open_6 : decode b_MM_open 6 = .ok (.if_icmp .le 5, 3) := by decide +kernel
theorem d_MM_open_9 : decode b_MM_open 9 = .ok (.iconst (-1), 1) := by decide +kernel
theorem d_MM_open_10 : decode b_MM_open 10 = .ok (.ireturn, 1) := by decide +kernel
theorem d_MM_open_11 : decode b_MM_open 11 = .ok (.iconst 0, 1) := by decide +kernel
theorem d_MM_open_12 : decode b_MM_open 12 = .ok (.istore_n 2, 1) := by decide +kernel
theorem d_MM_open_13 : decode b_MM_open 13 = .ok (.iload_n 2, 1) := by decide +kernel
theorem d_MM_open_14 : decode b_MM_open 14 = .ok (.aload_n 0, 1) := by decide +kernel
theorem d_MM_open_15 : decode b_MM_open 15 = .ok (.getfield 90, 3) := by decide +kernel
theorem d_MM_open_18 : decode b_MM_open 18 = .ok (.if_icmp .ge 39, 3) := by decide +kernel
theorem d_MM_open_21 : decode b_MM_open 21 = .ok (.aload_n 0, 1) := by decide +kernel
theorem d_MM_open_22 : decode b_MM_open 22 = .ok (.getfield 66, 3) := by decide +kernel
theorem d_MM_open_25 : decode b_MM_open 25 = .ok (.iload_n 2, 1) := by decide +kernel
theorem d_MM_open_26 : decode b_MM_open 26 = .ok (.baload, 1) := by decide +kernel
theorem d_MM_open_27 : decode b_MM_open 27 = .ok (.ifCond .eq 24, 3) := by decide +kernel
theorem d_MM_open_30 : decode b_MM_open 30 = .ok (.aload_n 0, 1) := by decide +kernel
theorem d_MM_open_31 : decode b_MM_open 31 = .ok (.getfield 44, 3) := by decide +kernel
theorem d_MM_open_34 : decode b_MM_open 34 = .ok (.iload_n 2, 1) := by decide +kernel
theorem d_MM_open_35 : decode b_MM_open 35 = .ok (.iaload, 1) := by decide +kernel
theorem d_MM_open_36 : decode b_MM_open 36 = .ok (.iload_n 1, 1) := by decide +kernel
theorem d_MM_open_37 : decode b_MM_open 37 = .ok (.if_icmp .ne 14, 3) := by decide +kernel
theorem d_MM_open_40 : decode b_MM_open 40 = .ok (.aload_n 0, 1) := by decide +kernel
theorem d_MM_open_41 : decode b_MM_open 41 = .ok (.getfield 69, 3) := by decide +kernel
theorem d_MM_open_44 : decode b_MM_open 44 = .ok (.iload_n 2, 1) := by decide +kernel
theorem d_MM_open_45 : decode b_MM_open 45 = .ok (.baload, 1) := by decide +kernel
theorem d_MM_open_46 : decode b_MM_open 46 = .ok (.ifCond .ne 5, 3) := by decide +kernel
theorem d_MM_open_49 : decode b_MM_open 49 = .ok (.iload_n 2, 1) := by decide +kernel
theorem d_MM_open_50 : decode b_MM_open 50 = .ok (.ireturn, 1) := by decide +kernel
theorem d_MM_open_51 : decode b_MM_open 51 = .ok (.iinc 2 1, 3) := by decide +kernel
theorem d_MM_open_54 : decode b_MM_open 54 = .ok (.goto (-41), 3) := by decide +kernel
theorem d_MM_open_57 : decode b_MM_open 57 = .ok (.bipush (-10), 2) := by decide +kernel
theorem d_MM_open_59 : decode b_MM_open 59 = .ok (.ireturn, 1) := by decide +kernel
theorem d_MM_unused_0 : decode b_MM_unused 0 = .ok (.iconst 0, 1) := by decide +kernel
theorem d_MM_unused_1 : decode b_MM_unused 1 = .ok (.istore_n 1, 1) := by decide +kernel
theorem d_MM_unused_2 : decode b_MM_unused 2 = .ok (.iload_n 1, 1) := by decide +kernel
theorem d_MM_unused_3 : decode b_MM_unused 3 = .ok (.aload_n 0, 1) := by decide +kernel
theorem d_MM_unused_4 : decode b_MM_unused 4 = .ok (.getfield 83, 3) := by decide +kernel
theorem d_MM_unused_7 : decode b_MM_unused 7 = .ok (.if_icmp .ge 32, 3) := by decide +kernel
theorem d_MM_unused_10 : decode b_MM_unused 10 = .ok (.aload_n 0, 1) := by decide +kernel
theorem d_MM_unused_11 : decode b_MM_unused 11 = .ok (.getfield 22, 3) := by decide +kernel
theorem d_MM_unused_14 : decode b_MM_unused 14 = .ok (.iload_n 1, 1) := by decide +kernel
theorem d_MM_unused_15 : decode b_MM_unused 15 = .ok (.baload, 1) := by decide +kernel
theorem d_MM_unused_16 : decode b_MM_unused 16 = .ok (.ifCond .eq 17, 3) := by decide +kernel
theorem d_MM_unused_19 : decode b_MM_unused 19 = .ok (.aload_n 0, 1) := by decide +kernel
theorem d_MM_unused_20 : decode b_MM_unused 20 = .ok (.iload_n 1, 1) := by decide +kernel
theorem d_MM_unused_21 : decode b_MM_unused 21 = .ok (.aload_n 0, 1) := by decide +kernel
theorem d_MM_unused_22 : decode b_MM_unused 22 = .ok (.getfield 90, 3) := by decide +kernel
theorem d_MM_unused_25 : decode b_MM_unused 25 = .ok (.invokevirtual 96, 3) := by decide +kernel
theorem d_MM_unused_28 : decode b_MM_unused 28 = .ok (.ifCond .ne 5, 3) := by decide +kernel
theorem d_MM_unused_31 : decode b_MM_unused 31 = .ok (.iload_n 1, 1) := by decide +kernel
theorem d_MM_unused_32 : decode b_MM_unused 32 = .ok (.ireturn, 1) := by decide +kernel
theorem d_MM_unused_33 : decode b_MM_unused 33 = .ok (.iinc 1 1, 3) := by decide +kernel
theorem d_MM_unused_36 : decode b_MM_unused 36 = .ok (.goto (-34), 3) := by decide +kernel
theorem d_MM_unused_39 : decode b_MM_unused 39 = .ok (.bipush (-10), 2) := by decide +kernel
theorem d_MM_unused_41 : decode b_MM_unused 41 = .ok (.ireturn, 1) := by decide +kernel
theorem d_MM_reset_0 : decode b_MM_reset 0 = .ok (.iload_n 1, 1) := by decide +kernel
theorem d_MM_reset_1 : decode b_MM_reset 1 = .ok (.ifCond .lt 8, 3) := by decide +kernel
theorem d_MM_reset_4 : decode b_MM_reset 4 = .ok (.iload_n 1, 1) := by decide +kernel
theorem d_MM_reset_5 : decode b_MM_reset 5 = .ok (.iconst 3, 1) := by decide +kernel
theorem d_MM_reset_6 : decode b_MM_reset 6 = .ok (.if_icmp .le 5, 3) := by decide +kernel
theorem d_MM_reset_9 : decode b_MM_reset 9 = .ok (.iconst (-1), 1) := by decide +kernel
theorem d_MM_reset_10 : decode b_MM_reset 10 = .ok (.ireturn, 1) := by decide +kernel
theorem d_MM_reset_11 : decode b_MM_reset 11 = .ok (.iconst 0, 1) := by decide +kernel
theorem d_MM_reset_12 : decode b_MM_reset 12 = .ok (.istore_n 2, 1) := by decide +kernel
theorem d_MM_reset_13 : decode b_MM_reset 13 = .ok (.iconst 0, 1) := by decide +kernel
theorem d_MM_reset_14 : decode b_MM_reset 14 = .ok (.istore_n 3, 1) := by decide +kernel
theorem d_MM_reset_15 : decode b_MM_reset 15 = .ok (.iload_n 3, 1) := by decide +kernel
theorem d_MM_reset_16 : decode b_MM_reset 16 = .ok (.aload_n 0, 1) := by decide +kernel
theorem d_MM_reset_17 : decode b_MM_reset 17 = .ok (.getfield 90, 3) := by decide +kernel
theorem d_MM_reset_20 : decode b_MM_reset 20 = .ok (.if_icmp .ge 41, 3) := by decide +kernel
theorem d_MM_reset_23 : decode b_MM_reset 23 = .ok (.aload_n 0, 1) := by decide +kernel
theorem d_MM_reset_24 : decode b_MM_reset 24 = .ok (.getfield 44, 3) := by decide +kernel
theorem d_MM_reset_27 : decode b_MM_reset 27 = .ok (.iload_n 3, 1) := by decide +kernel
theorem d_MM_reset_28 : decode b_MM_reset 28 = .ok (.iaload, 1) := by decide +kernel
theorem d_MM_reset_29 : decode b_MM_reset 29 = .ok (.iload_n 1, 1) := by decide +kernel
theorem d_MM_reset_30 : decode b_MM_reset 30 = .ok (.if_icmp .ne 25, 3) := by decide +kernel
theorem d_MM_reset_33 : decode b_MM_reset 33 = .ok (.aload_n 0, 1) := by decide +kernel
theorem d_MM_reset_34 : decode b_MM_reset 34 = .ok (.getfield 66, 3) := by decide +kernel
theorem d_MM_reset_37 : decode b_MM_reset 37 = .ok (.iload_n 3, 1) := by decide +kernel
theorem d_MM_reset_38 : decode b_MM_reset 38 = .ok (.baload, 1) := by decide +kernel
theorem d_MM_reset_39 : decode b_MM_reset 39 = .ok (.ifCond .ne 6, 3) := by decide +kernel
theorem d_MM_reset_42 : decode b_MM_reset 42 = .ok (.goto 13, 3) := by decide +kernel
theorem d_MM_reset_45 : decode b_MM_reset 45 = .ok (.iinc 2 1, 3) := by decide +kernel
theorem d_MM_reset_48 : decode b_MM_reset 48 = .ok (.aload_n 0, 1) := by decide +kernel
theorem d_MM_reset_49 : decode b_MM_reset 49 = .ok (.getfield 66, 3) := by decide +kernel
theorem d_MM_reset_52 : decode b_MM_reset 52 = .ok (.iload_n 3, 1) := by decide +kernel
theorem d_MM_reset_53 : decode b_MM_reset 53 = .ok (.iconst 0, 1) := by decide +kernel
theorem d_MM_reset_54 : decode b_MM_reset 54 = .ok (.bastore, 1) := by decide +kernel
theorem d_MM_reset_55 : decode b_MM_reset 55 = .ok (.iinc 3 1, 3) := by decide +kernel
theorem d_MM_reset_58 : decode b_MM_reset 58 = .ok (.goto (-43), 3) := by decide +kernel
theorem d_MM_reset_61 : decode b_MM_reset 61 = .ok (.iconst 0, 1) := by decide +kernel
theorem d_MM_reset_62 : decode b_MM_reset 62 = .ok (.istore_n 3, 1) := by decide +kernel
theorem d_MM_reset_63 : decode b_MM_reset 63 = .ok (.iload_n 3, 1) := by decide +kernel
theorem d_MM_reset_64 : decode b_MM_reset 64 = .ok (.aload_n 0, 1) := by decide +kernel
theorem d_MM_reset_65 : decode b_MM_reset 65 = .ok (.getfield 83, 3) := by decide +kernel
theorem d_MM_reset_68 : decode b_MM_reset 68 = .ok (.if_icmp .ge 26, 3) := by decide +kernel
theorem d_MM_reset_71 : decode b_MM_reset 71 = .ok (.aload_n 0, 1) := by decide +kernel
theorem d_MM_reset_72 : decode b_MM_reset 72 = .ok (.getfield 16, 3) := by decide +kernel
theorem d_MM_reset_75 : decode b_MM_reset 75 = .ok (.iload_n 3, 1) := by decide +kernel
theorem d_MM_reset_76 : decode b_MM_reset 76 = .ok (.iaload, 1) := by decide +kernel
theorem d_MM_reset_77 : decode b_MM_reset 77 = .ok (.iload_n 1, 1) := by decide +kernel
theorem d_MM_reset_78 : decode b_MM_reset 78 = .ok (.if_icmp .ne 10, 3) := by decide +kernel
theorem d_MM_reset_81 : decode b_MM_reset 81 = .ok (.aload_n 0, 1) := by decide +kernel
theorem d_MM_reset_82 : decode b_MM_reset 82 = .ok (.getfield 22, 3) := by decide +kernel
theorem d_MM_reset_85 : decode b_MM_reset 85 = .ok (.iload_n 3, 1) := by decide +kernel
theorem d_MM_reset_86 : decode b_MM_reset 86 = .ok (.iconst 0, 1) := by decide +kernel
theorem d_MM_reset_87 : decode b_MM_reset 87 = .ok (.bastore, 1) := by decide +kernel
theorem d_MM_reset_88 : decode b_MM_reset 88 = .ok (.iinc 3 1, 3) := by decide +kernel
theorem d_MM_reset_91 : decode b_MM_reset 91 = .ok (.goto (-28), 3) := by decide +kernel
theorem d_MM_reset_94 : decode b_MM_reset 94 = .ok (.iload_n 2, 1) := by decide +kernel
theorem d_MM_reset_95 : decode b_MM_reset 95 = .ok (.ireturn, 1) := by decide +kernel
theorem d_MM_noted_0 : decode b_MM_noted 0 = .ok (.iload_n 1, 1) := by decide +kernel
theorem d_MM_noted_1 : decode b_MM_noted 1 = .ok (.ifCond .lt 11, 3) := by decide +kernel
theorem d_MM_noted_4 : decode b_MM_noted 4 = .ok (.iload_n 1, 1) := by decide +kernel
theorem d_MM_noted_5 : decode b_MM_noted 5 = .ok (.aload_n 0, 1) := by decide +kernel
theorem d_MM_noted_6 : decode b_MM_noted 6 = .ok (.getfield 90, 3) := by decide +kernel
theorem d_MM_noted_9 : decode b_MM_noted 9 = .ok (.if_icmp .lt 7, 3) := by decide +kernel
theorem d_MM_noted_12 : decode b_MM_noted 12 = .ok (.ldc2_w 106, 3) := by decide +kernel
theorem d_MM_noted_15 : decode b_MM_noted 15 = .ok (.lreturn, 1) := by decide +kernel
theorem d_MM_noted_16 : decode b_MM_noted 16 = .ok (.iload_n 2, 1) := by decide +kernel
theorem d_MM_noted_17 : decode b_MM_noted 17 = .ok (.tableswitch 139 0 9 #[55, 63, 71, 71, 71, 85, 93, 101, 116, 124], 55) := by decide +kernel
theorem d_MM_noted_72 : decode b_MM_noted 72 = .ok (.aload_n 0, 1) := by decide +kernel
theorem d_MM_noted_73 : decode b_MM_noted 73 = .ok (.getfield 44, 3) := by decide +kernel
theorem d_MM_noted_76 : decode b_MM_noted 76 = .ok (.iload_n 1, 1) := by decide +kernel
theorem d_MM_noted_77 : decode b_MM_noted 77 = .ok (.iaload, 1) := by decide +kernel
theorem d_MM_noted_78 : decode b_MM_noted 78 = .ok (.i2l, 1) := by decide +kernel
theorem d_MM_noted_79 : decode b_MM_noted 79 = .ok (.lreturn, 1) := by decide +kernel
theorem d_MM_noted_80 : decode b_MM_noted 80 = .ok (.aload_n 0, 1) := by decide +kernel
theorem d_MM_noted_81 : decode b_MM_noted 81 = .ok (.getfield 47, 3) := by decide +kernel
theorem d_MM_noted_84 : decode b_MM_noted 84 = .ok (.iload_n 1, 1) := by decide +kernel
theorem d_MM_noted_85 : decode b_MM_noted 85 = .ok (.iaload, 1) := by decide +kernel
theorem d_MM_noted_86 : decode b_MM_noted 86 = .ok (.i2l, 1) := by decide +kernel
theorem d_MM_noted_87 : decode b_MM_noted 87 = .ok (.lreturn, 1) := by decide +kernel
theorem d_MM_noted_88 : decode b_MM_noted 88 = .ok (.aload_n 0, 1) := by decide +kernel
theorem d_MM_noted_89 : decode b_MM_noted 89 = .ok (.getfield 50, 3) := by decide +kernel
theorem d_MM_noted_92 : decode b_MM_noted 92 = .ok (.iconst 3, 1) := by decide +kernel
theorem d_MM_noted_93 : decode b_MM_noted 93 = .ok (.iload_n 1, 1) := by decide +kernel
theorem d_MM_noted_94 : decode b_MM_noted 94 = .ok (.imul, 1) := by decide +kernel
theorem d_MM_noted_95 : decode b_MM_noted 95 = .ok (.iload_n 2, 1) := by decide +kernel
theorem d_MM_noted_96 : decode b_MM_noted 96 = .ok (.iadd, 1) := by decide +kernel
theorem d_MM_noted_97 : decode b_MM_noted 97 = .ok (.iconst 2, 1) := by decide +kernel
theorem d_MM_noted_98 : decode b_MM_noted 98 = .ok (.isub, 1) := by decide +kernel
theorem d_MM_noted_99 : decode b_MM_noted 99 = .ok (.iaload, 1) := by decide +kernel
theorem d_MM_noted_100 : decode b_MM_noted 100 = .ok (.i2l, 1) := by decide +kernel
theorem d_MM_noted_101 : decode b_MM_noted 101 = .ok (.lreturn, 1) := by decide +kernel
theorem d_MM_noted_102 : decode b_MM_noted 102 = .ok (.aload_n 0, 1) := by decide +kernel
theorem d_MM_noted_103 : decode b_MM_noted 103 = .ok (.getfield 53, 3) := by decide +kernel
theorem d_MM_noted_106 : decode b_MM_noted 106 = .ok (.iload_n 1, 1) := by decide +kernel
theorem d_MM_noted_107 : decode b_MM_noted 107 = .ok (.iaload, 1) := by decide +kernel
theorem d_MM_noted_108 : decode b_MM_noted 108 = .ok (.i2l, 1) := by decide +kernel
theorem d_MM_noted_109 : decode b_MM_noted 109 = .ok (.lreturn, 1) := by decide +kernel
theorem d_MM_noted_110 : decode b_MM_noted 110 = .ok (.aload_n 0, 1) := by decide +kernel
theorem d_MM_noted_111 : decode b_MM_noted 111 = .ok (.getfield 56, 3) := by decide +kernel
theorem d_MM_noted_114 : decode b_MM_noted 114 = .ok (.iload_n 1, 1) := by decide +kernel
theorem d_MM_noted_115 : decode b_MM_noted 115 = .ok (.iaload, 1) := by decide +kernel
theorem d_MM_noted_116 : decode b_MM_noted 116 = .ok (.i2l, 1) := by decide +kernel
theorem d_MM_noted_117 : decode b_MM_noted 117 = .ok (.lreturn, 1) := by decide +kernel
theorem d_MM_noted_118 : decode b_MM_noted 118 = .ok (.aload_n 0, 1) := by decide +kernel
theorem d_MM_noted_119 : decode b_MM_noted 119 = .ok (.getfield 69, 3) := by decide +kernel
theorem d_MM_noted_122 : decode b_MM_noted 122 = .ok (.iload_n 1, 1) := by decide +kernel
theorem d_MM_noted_123 : decode b_MM_noted 123 = .ok (.baload, 1) := by decide +kernel
theorem d_MM_noted_124 : decode b_MM_noted 124 = .ok (.ifCond .eq 7, 3) := by decide +kernel
theorem d_MM_noted_127 : decode b_MM_noted 127 = .ok (.lconst 1, 1) := by decide +kernel
theorem d_MM_noted_128 : decode b_MM_noted 128 = .ok (.goto 4, 3) := by decide +kernel
theorem d_MM_noted_131 : decode b_MM_noted 131 = .ok (.lconst 0, 1) := by decide +kernel
theorem d_MM_noted_132 : decode b_MM_noted 132 = .ok (.lreturn, 1) := by decide +kernel
theorem d_MM_noted_133 : decode b_MM_noted 133 = .ok (.aload_n 0, 1) := by decide +kernel
theorem d_MM_noted_134 : decode b_MM_noted 134 = .ok (.getfield 59, 3) := by decide +kernel
theorem d_MM_noted_137 : decode b_MM_noted 137 = .ok (.iload_n 1, 1) := by decide +kernel
theorem d_MM_noted_138 : decode b_MM_noted 138 = .ok (.iaload, 1) := by decide +kernel
theorem d_MM_noted_139 : decode b_MM_noted 139 = .ok (.i2l, 1) := by decide +kernel
theorem d_MM_noted_140 : decode b_MM_noted 140 = .ok (.lreturn, 1) := by decide +kernel
theorem d_MM_noted_141 : decode b_MM_noted 141 = .ok (.aload_n 0, 1) := by decide +kernel
theorem d_MM_noted_142 : decode b_MM_noted 142 = .ok (.getfield 66, 3) := by decide +kernel
theorem d_MM_noted_145 : decode b_MM_noted 145 = .ok (.iload_n 1, 1) := by decide +kernel
theorem d_MM_noted_146 : decode b_MM_noted 146 = .ok (.baload, 1) := by decide +kernel
theorem d_MM_noted_147 : decode b_MM_noted 147 = .ok (.ifCond .eq 7, 3) := by decide +kernel
theorem d_MM_noted_150 : decode b_MM_noted 150 = .ok (.lconst 1, 1) := by decide +kernel
theorem d_MM_noted_151 : decode b_MM_noted 151 = .ok (.goto 4, 3) := by decide +kernel
theorem d_MM_noted_154 : decode b_MM_noted 154 = .ok (.lconst 0, 1) := by decide +kernel
theorem d_MM_noted_155 : decode b_MM_noted 155 = .ok (.lreturn, 1) := by decide +kernel
theorem d_MM_noted_156 : decode b_MM_noted 156 = .ok (.ldc2_w 106, 3) := by decide +kernel
theorem d_MM_noted_159 : decode b_MM_noted 159 = .ok (.lreturn, 1) := by decide +kernel
theorem d_MM_answer_0 : decode b_MM_answer 0 = .ok (.iload_n 1, 1) := by decide +kernel
theorem d_MM_answer_1 : decode b_MM_answer 1 = .ok (.ifCond .lt 11, 3) := by decide +kernel
theorem d_MM_answer_4 : decode b_MM_answer 4 = .ok (.iload_n 1, 1) := by decide +kernel
theorem d_MM_answer_5 : decode b_MM_answer 5 = .ok (.aload_n 0, 1) := by decide +kernel
theorem d_MM_answer_6 : decode b_MM_answer 6 = .ok (.getfield 90, 3) := by decide +kernel
theorem d_MM_answer_9 : decode b_MM_answer 9 = .ok (.if_icmp .lt 9, 3) := by decide +kernel
theorem d_MM_answer_12 : decode b_MM_answer 12 = .ok (.ldc2_w 106, 3) := by decide +kernel
theorem d_MM_answer_15 : decode b_MM_answer 15 = .ok (.goto 9, 3) := by decide +kernel
theorem d_MM_answer_18 : decode b_MM_answer 18 = .ok (.aload_n 0, 1) := by decide +kernel
theorem d_MM_answer_19 : decode b_MM_answer 19 = .ok (.getfield 62, 3) := by decide +kernel
theorem d_MM_answer_22 : decode b_MM_answer 22 = .ok (.iload_n 1, 1) := by decide +kernel
theorem d_MM_answer_23 : decode b_MM_answer 23 = .ok (.laload, 1) := by decide +kernel
theorem d_MM_answer_24 : decode b_MM_answer 24 = .ok (.lreturn, 1) := by decide +kernel
theorem d_MM_about_0 : decode b_MM_about 0 = .ok (.iload_n 1, 1) := by decide +kernel
theorem d_MM_about_1 : decode b_MM_about 1 = .ok (.ifCond .lt 20, 3) := by decide +kernel
theorem d_MM_about_4 : decode b_MM_about 4 = .ok (.iload_n 1, 1) := by decide +kernel
theorem d_MM_about_5 : decode b_MM_about 5 = .ok (.aload_n 0, 1) := by decide +kernel
theorem d_MM_about_6 : decode b_MM_about 6 = .ok (.getfield 83, 3) := by decide +kernel
theorem d_MM_about_9 : decode b_MM_about 9 = .ok (.if_icmp .ge 12, 3) := by decide +kernel
theorem d_MM_about_12 : decode b_MM_about 12 = .ok (.iload_n 2, 1) := by decide +kernel
theorem d_MM_about_13 : decode b_MM_about 13 = .ok (.ifCond .lt 8, 3) := by decide +kernel
theorem d_MM_about_16 : decode b_MM_about 16 = .ok (.iload_n 2, 1) := by decide +kernel
theorem d_MM_about_17 : decode b_MM_about 17 = .ok (.iconst 2, 1) := by decide +kernel
theorem d_MM_about_18 : decode b_MM_about 18 = .ok (.if_icmp .le 5, 3) := by decide +kernel
theorem d_MM_about_21 : decode b_MM_about 21 = .ok (.iconst (-1), 1) := by decide +kernel
theorem d_MM_about_22 : decode b_MM_about 22 = .ok (.ireturn, 1) := by decide +kernel
theorem d_MM_about_23 : decode b_MM_about 23 = .ok (.iload_n 2, 1) := by decide +kernel
theorem d_MM_about_24 : decode b_MM_about 24 = .ok (.ifCond .ne 12, 3) := by decide +kernel
theorem d_MM_about_27 : decode b_MM_about 27 = .ok (.aload_n 0, 1) := by decide +kernel
theorem d_MM_about_28 : decode b_MM_about 28 = .ok (.getfield 38, 3) := by decide +kernel
theorem d_MM_about_31 : decode b_MM_about 31 = .ok (.iload_n 1, 1) := by decide +kernel
theorem d_MM_about_32 : decode b_MM_about 32 = .ok (.iaload, 1) := by decide +kernel
theorem d_MM_about_33 : decode b_MM_about 33 = .ok (.goto 34, 3) := by decide +kernel
theorem d_MM_about_36 : decode b_MM_about 36 = .ok (.iload_n 2, 1) := by decide +kernel
theorem d_MM_about_37 : decode b_MM_about 37 = .ok (.iconst 1, 1) := by decide +kernel
theorem d_MM_about_38 : decode b_MM_about 38 = .ok (.if_icmp .ne 15, 3) := by decide +kernel
theorem d_MM_about_41 : decode b_MM_about 41 = .ok (.aload_n 0, 1) := by decide +kernel
theorem d_MM_about_42 : decode b_MM_about 42 = .ok (.iload_n 1, 1) := by decide +kernel
theorem d_MM_about_43 : decode b_MM_about 43 = .ok (.aload_n 0, 1) := by decide +kernel
theorem d_MM_about_44 : decode b_MM_about 44 = .ok (.getfield 90, 3) := by decide +kernel
theorem d_MM_about_47 : decode b_MM_about 47 = .ok (.invokevirtual 96, 3) := by decide +kernel
theorem d_MM_about_50 : decode b_MM_about 50 = .ok (.goto 17, 3) := by decide +kernel
theorem d_MM_about_53 : decode b_MM_about 53 = .ok (.aload_n 0, 1) := by decide +kernel
theorem d_MM_about_54 : decode b_MM_about 54 = .ok (.getfield 22, 3) := by decide +kernel
theorem d_MM_about_57 : decode b_MM_about 57 = .ok (.iload_n 1, 1) := by decide +kernel
theorem d_MM_about_58 : decode b_MM_about 58 = .ok (.baload, 1) := by decide +kernel
theorem d_MM_about_59 : decode b_MM_about 59 = .ok (.ifCond .eq 7, 3) := by decide +kernel
theorem d_MM_about_62 : decode b_MM_about 62 = .ok (.iconst 1, 1) := by decide +kernel
theorem d_MM_about_63 : decode b_MM_about 63 = .ok (.goto 4, 3) := by decide +kernel
theorem d_MM_about_66 : decode b_MM_about 66 = .ok (.iconst 0, 1) := by decide +kernel
theorem d_MM_about_67 : decode b_MM_about 67 = .ok (.ireturn, 1) := by decide +kernel
theorem d_MM_count_0 : decode b_MM_count 0 = .ok (.iconst 0, 1) := by decide +kernel
theorem d_MM_count_1 : decode b_MM_count 1 = .ok (.istore_n 2, 1) := by decide +kernel
theorem d_MM_count_2 : decode b_MM_count 2 = .ok (.iload_n 1, 1) := by decide +kernel
theorem d_MM_count_3 : decode b_MM_count 3 = .ok (.tableswitch 126 0 5 #[37, 42, 42, 86, 91, 121], 37) := by decide +kernel
theorem d_MM_count_40 : decode b_MM_count 40 = .ok (.aload_n 0, 1) := by decide +kernel
theorem d_MM_count_41 : decode b_MM_count 41 = .ok (.getfield 90, 3) := by decide +kernel
theorem d_MM_count_44 : decode b_MM_count 44 = .ok (.ireturn, 1) := by decide +kernel
theorem d_MM_count_45 : decode b_MM_count 45 = .ok (.iconst 0, 1) := by decide +kernel
theorem d_MM_count_46 : decode b_MM_count 46 = .ok (.istore_n 3, 1) := by decide +kernel
theorem d_MM_count_47 : decode b_MM_count 47 = .ok (.iload_n 3, 1) := by decide +kernel
theorem d_MM_count_48 : decode b_MM_count 48 = .ok (.aload_n 0, 1) := by decide +kernel
theorem d_MM_count_49 : decode b_MM_count 49 = .ok (.getfield 90, 3) := by decide +kernel
theorem d_MM_count_52 : decode b_MM_count 52 = .ok (.if_icmp .ge 35, 3) := by decide +kernel
theorem d_MM_count_55 : decode b_MM_count 55 = .ok (.aload_n 0, 1) := by decide +kernel
theorem d_MM_count_56 : decode b_MM_count 56 = .ok (.getfield 66, 3) := by decide +kernel
theorem d_MM_count_59 : decode b_MM_count 59 = .ok (.iload_n 3, 1) := by decide +kernel
theorem d_MM_count_60 : decode b_MM_count 60 = .ok (.baload, 1) := by decide +kernel
theorem d_MM_count_61 : decode b_MM_count 61 = .ok (.ifCond .eq 20, 3) := by decide +kernel
theorem d_MM_count_64 : decode b_MM_count 64 = .ok (.iload_n 1, 1) := by decide +kernel
theorem d_MM_count_65 : decode b_MM_count 65 = .ok (.iconst 1, 1) := by decide +kernel
theorem d_MM_count_66 : decode b_MM_count 66 = .ok (.if_icmp .eq 12, 3) := by decide +kernel
theorem d_MM_count_69 : decode b_MM_count 69 = .ok (.aload_n 0, 1) := by decide +kernel
theorem d_MM_count_70 : decode b_MM_count 70 = .ok (.getfield 69, 3) := by decide +kernel
theorem d_MM_count_73 : decode b_MM_count 73 = .ok (.iload_n 3, 1) := by decide +kernel
theorem d_MM_count_74 : decode b_MM_count 74 = .ok (.baload, 1) := by decide +kernel
theorem d_MM_count_75 : decode b_MM_count 75 = .ok (.ifCond .eq 6, 3) := by decide +kernel
theorem d_MM_count_78 : decode b_MM_count 78 = .ok (.iinc 2 1, 3) := by decide +kernel
theorem d_MM_count_81 : decode b_MM_count 81 = .ok (.iinc 3 1, 3) := by decide +kernel
theorem d_MM_count_84 : decode b_MM_count 84 = .ok (.goto (-37), 3) := by decide +kernel
theorem d_MM_count_87 : decode b_MM_count 87 = .ok (.iload_n 2, 1) := by decide +kernel
theorem d_MM_count_88 : decode b_MM_count 88 = .ok (.ireturn, 1) := by decide +kernel
theorem d_MM_count_89 : decode b_MM_count 89 = .ok (.aload_n 0, 1) := by decide +kernel
theorem d_MM_count_90 : decode b_MM_count 90 = .ok (.getfield 83, 3) := by decide +kernel
theorem d_MM_count_93 : decode b_MM_count 93 = .ok (.ireturn, 1) := by decide +kernel
theorem d_MM_count_94 : decode b_MM_count 94 = .ok (.iconst 0, 1) := by decide +kernel
theorem d_MM_count_95 : decode b_MM_count 95 = .ok (.istore_n 3, 1) := by decide +kernel
theorem d_MM_count_96 : decode b_MM_count 96 = .ok (.iload_n 3, 1) := by decide +kernel
theorem d_MM_count_97 : decode b_MM_count 97 = .ok (.aload_n 0, 1) := by decide +kernel
theorem d_MM_count_98 : decode b_MM_count 98 = .ok (.getfield 83, 3) := by decide +kernel
theorem d_MM_count_101 : decode b_MM_count 101 = .ok (.if_icmp .ge 21, 3) := by decide +kernel
theorem d_MM_count_104 : decode b_MM_count 104 = .ok (.aload_n 0, 1) := by decide +kernel
theorem d_MM_count_105 : decode b_MM_count 105 = .ok (.getfield 22, 3) := by decide +kernel
theorem d_MM_count_108 : decode b_MM_count 108 = .ok (.iload_n 3, 1) := by decide +kernel
theorem d_MM_count_109 : decode b_MM_count 109 = .ok (.baload, 1) := by decide +kernel
theorem d_MM_count_110 : decode b_MM_count 110 = .ok (.ifCond .eq 6, 3) := by decide +kernel
theorem d_MM_count_113 : decode b_MM_count 113 = .ok (.iinc 2 1, 3) := by decide +kernel
theorem d_MM_count_116 : decode b_MM_count 116 = .ok (.iinc 3 1, 3) := by decide +kernel
theorem d_MM_count_119 : decode b_MM_count 119 = .ok (.goto (-23), 3) := by decide +kernel
theorem d_MM_count_122 : decode b_MM_count 122 = .ok (.iload_n 2, 1) := by decide +kernel
theorem d_MM_count_123 : decode b_MM_count 123 = .ok (.ireturn, 1) := by decide +kernel
theorem d_MM_count_124 : decode b_MM_count 124 = .ok (.aload_n 0, 1) := by decide +kernel
theorem d_MM_count_125 : decode b_MM_count 125 = .ok (.getfield 76, 3) := by decide +kernel
theorem d_MM_count_128 : decode b_MM_count 128 = .ok (.ireturn, 1) := by decide +kernel
theorem d_MM_count_129 : decode b_MM_count 129 = .ok (.iconst (-1), 1) := by decide +kernel
theorem d_MM_count_130 : decode b_MM_count 130 = .ok (.ireturn, 1) := by decide +kernel
end
section
theorem d_AL_init_0 : decode b_AL_init 0 = .ok (.aload_n 0, 1) := by decide +kernel
theorem d_AL_init_1 : decode b_AL_init 1 = .ok (.invokespecial 1, 3) := by decide +kernel
theorem d_AL_init_4 : decode b_AL_init 4 = .ok (.aload_n 0, 1) := by decide +kernel
theorem d_AL_init_5 : decode b_AL_init 5 = .ok (.getstatic 39, 3) := by decide +kernel
theorem d_AL_init_8 : decode b_AL_init 8 = .ok (.putfield 9, 3) := by decide +kernel
theorem d_AL_init_11 : decode b_AL_init 11 = .ok (.return_, 1) := by decide +kernel
theorem d_Li_init_0 : decode b_Li_init 0 = .ok (.aload_n 0, 1) := by decide +kernel
theorem d_Li_init_1 : decode b_Li_init 1 = .ok (.invokespecial 1, 3) := by decide +kernel
theorem d_Li_init_4 : decode b_Li_init 4 = .ok (.aload_n 0, 1) := by decide +kernel
theorem d_Li_init_5 : decode b_Li_init 5 = .ok (.iconst 0, 1) := by decide +kernel
theorem d_Li_init_6 : decode b_Li_init 6 = .ok (.putfield 7, 3) := by decide +kernel
theorem d_Li_init_9 : decode b_Li_init 9 = .ok (.return_, 1) := by decide +kernel
theorem d_Co_init_0 : decode b_Co_init 0 = .ok (.aload_n 0, 1) := by decide +kernel
theorem d_Co_init_1 : decode b_Co_init 1 = .ok (.invokespecial 1, 3) := by decide +kernel
theorem d_Co_init_4 : decode b_Co_init 4 = .ok (.return_, 1) := by decide +kernel
theorem d_AL_size_0 : decode b_AL_size 0 = .ok (.aload_n 0, 1) := by decide +kernel
theorem d_AL_size_1 : decode b_AL_size 1 = .ok (.getfield 48, 3) := by decide +kernel
theorem d_AL_size_4 : decode b_AL_size 4 = .ok (.ireturn, 1) := by decide +kernel
theorem d_AL_add_0 : decode b_AL_add 0 = .ok (.aload_n 0, 1) := by decide +kernel
theorem d_AL_add_1 : decode b_AL_add 1 = .ok (.dup, 1) := by decide +kernel
theorem d_AL_add_2 : decode b_AL_add 2 = .ok (.getfield 63, 3) := by decide +kernel
theorem d_AL_add_5 : decode b_AL_add 5 = .ok (.iconst 1, 1) := by decide +kernel
theorem d_AL_add_6 : decode b_AL_add 6 = .ok (.iadd, 1) := by decide +kernel
theorem d_AL_add_7 : decode b_AL_add 7 = .ok (.putfield 63, 3) := by decide +kernel
theorem d_AL_add_10 : decode b_AL_add 10 = .ok (.aload_n 0, 1) := by decide +kernel
theorem d_AL_add_11 : decode b_AL_add 11 = .ok (.aload_n 1, 1) := by decide +kernel
theorem d_AL_add_12 : decode b_AL_add 12 = .ok (.aload_n 0, 1) := by decide +kernel
theorem d_AL_add_13 : decode b_AL_add 13 = .ok (.getfield 9, 3) := by decide +kernel
theorem d_AL_add_16 : decode b_AL_add 16 = .ok (.aload_n 0, 1) := by decide +kernel
theorem d_AL_add_17 : decode b_AL_add 17 = .ok (.getfield 48, 3) := by decide +kernel
theorem d_AL_add_20 : decode b_AL_add 20 = .ok (.invokevirtual 131, 3) := by decide +kernel
theorem d_AL_add_23 : decode b_AL_add 23 = .ok (.iconst 1, 1) := by decide +kernel
theorem d_AL_add_24 : decode b_AL_add 24 = .ok (.ireturn, 1) := by decide +kernel
theorem d_AL_add3_0 : decode b_AL_add3 0 = .ok (.iload_n 3, 1) := by decide +kernel
theorem d_AL_add3_1 : decode b_AL_add3 1 = .ok (.aload_n 2, 1) := by decide +kernel
theorem d_AL_add3_2 : decode b_AL_add3 2 = .ok (.arraylength, 1) := by decide +kernel
theorem d_AL_add3_3 : decode b_AL_add3 3 = .ok (.if_icmp .ne 8, 3) := by decide +kernel
theorem d_AL_add3_6 : decode b_AL_add3 6 = .ok (.aload_n 0, 1) := by decide +kernel
theorem d_AL_add3_7 : decode b_AL_add3 7 = .ok (.invokevirtual 129, 3) := by decide +kernel
theorem d_AL_add3_10 : decode b_AL_add3 10 = .ok (.astore_n 2, 1) := by decide +kernel
theorem d_AL_add3_11 : decode b_AL_add3 11 = .ok (.aload_n 2, 1) := by decide +kernel
theorem d_AL_add3_12 : decode b_AL_add3 12 = .ok (.iload_n 3, 1) := by decide +kernel
theorem d_AL_add3_13 : decode b_AL_add3 13 = .ok (.aload_n 1, 1) := by decide +kernel
theorem d_AL_add3_14 : decode b_AL_add3 14 = .ok (.aastore, 1) := by decide +kernel
theorem d_AL_add3_15 : decode b_AL_add3 15 = .ok (.aload_n 0, 1) := by decide +kernel
theorem d_AL_add3_16 : decode b_AL_add3 16 = .ok (.iload_n 3, 1) := by decide +kernel
theorem d_AL_add3_17 : decode b_AL_add3 17 = .ok (.iconst 1, 1) := by decide +kernel
theorem d_AL_add3_18 : decode b_AL_add3 18 = .ok (.iadd, 1) := by decide +kernel
theorem d_AL_add3_19 : decode b_AL_add3 19 = .ok (.putfield 48, 3) := by decide +kernel
theorem d_AL_add3_22 : decode b_AL_add3 22 = .ok (.return_, 1) := by decide +kernel
theorem d_AL_grow_0 : decode b_AL_grow 0 = .ok (.aload_n 0, 1) := by decide +kernel
theorem d_AL_grow_1 : decode b_AL_grow 1 = .ok (.aload_n 0, 1) := by decide +kernel
theorem d_AL_grow_2 : decode b_AL_grow 2 = .ok (.getfield 48, 3) := by decide +kernel
theorem d_AL_grow_5 : decode b_AL_grow 5 = .ok (.iconst 1, 1) := by decide +kernel
theorem d_AL_grow_6 : decode b_AL_grow 6 = .ok (.iadd, 1) := by decide +kernel
theorem d_AL_grow_7 : decode b_AL_grow 7 = .ok (.invokevirtual 69, 3) := by decide +kernel
theorem d_AL_grow_10 : decode b_AL_grow 10 = .ok (.areturn, 1) := by decide +kernel
theorem d_AL_growI_0 : decode b_AL_growI 0 = .ok (.aload_n 0, 1) := by decide +kernel
theorem d_AL_growI_1 : decode b_AL_growI 1 = .ok (.getfield 9, 3) := by decide +kernel
theorem d_AL_growI_4 : decode b_AL_growI 4 = .ok (.arraylength, 1) := by decide +kernel
theorem d_AL_growI_5 : decode b_AL_growI 5 = .ok (.istore_n 2, 1) := by decide +kernel
theorem d_AL_growI_6 : decode b_AL_growI 6 = .ok (.iload_n 2, 1) := by decide +kernel
theorem d_AL_growI_7 : decode b_AL_growI 7 = .ok (.ifCond .gt 13, 3) := by decide +kernel
theorem d_AL_growI_10 : decode b_AL_growI 10 = .ok (.aload_n 0, 1) := by decide +kernel
theorem d_AL_growI_11 : decode b_AL_growI 11 = .ok (.getfield 9, 3) := by decide +kernel
theorem d_AL_growI_14 : decode b_AL_growI 14 = .ok (.getstatic 39, 3) := by decide +kernel
theorem d_AL_growI_17 : decode b_AL_growI 17 = .ok (.if_acmp .eq 28, 3) := by decide +kernel
theorem d_AL_growI_20 : decode b_AL_growI 20 = .ok (.iload_n 2, 1) := by decide +kernel
theorem d_AL_growI_21 : decode b_AL_growI 21 = .ok (.iload_n 1, 1) := by decide +kernel
theorem d_AL_growI_22 : decode b_AL_growI 22 = .ok (.iload_n 2, 1) := by decide +kernel
theorem d_AL_growI_23 : decode b_AL_growI 23 = .ok (.isub, 1) := by decide +kernel
theorem d_AL_growI_24 : decode b_AL_growI 24 = .ok (.iload_n 2, 1) := by decide +kernel
theorem d_AL_growI_25 : decode b_AL_growI 25 = .ok (.iconst 1, 1) := by decide +kernel
theorem d_AL_growI_26 : decode b_AL_growI 26 = .ok (.ishr, 1) := by decide +kernel
theorem d_AL_growI_27 : decode b_AL_growI 27 = .ok (.invokestatic 73, 3) := by decide +kernel
theorem d_AL_growI_30 : decode b_AL_growI 30 = .ok (.istore_n 3, 1) := by decide +kernel
theorem d_AL_growI_31 : decode b_AL_growI 31 = .ok (.aload_n 0, 1) := by decide +kernel
theorem d_AL_growI_32 : decode b_AL_growI 32 = .ok (.aload_n 0, 1) := by decide +kernel
theorem d_AL_growI_33 : decode b_AL_growI 33 = .ok (.getfield 9, 3) := by decide +kernel
theorem d_AL_growI_36 : decode b_AL_growI 36 = .ok (.iload_n 3, 1) := by decide +kernel
theorem d_AL_growI_37 : decode b_AL_growI 37 = .ok (.invokestatic 66, 3) := by decide +kernel
theorem d_AL_growI_40 : decode b_AL_growI 40 = .ok (.dup_x1, 1) := by decide +kernel
theorem d_AL_growI_41 : decode b_AL_growI 41 = .ok (.putfield 9, 3) := by decide +kernel
theorem d_AL_growI_44 : decode b_AL_growI 44 = .ok (.areturn, 1) := by decide +kernel
theorem d_AL_growI_45 : decode b_AL_growI 45 = .ok (.aload_n 0, 1) := by decide +kernel
theorem d_AL_growI_46 : decode b_AL_growI 46 = .ok (.bipush 10, 2) := by decide +kernel
theorem d_AL_growI_48 : decode b_AL_growI 48 = .ok (.iload_n 1, 1) := by decide +kernel
theorem d_AL_growI_49 : decode b_AL_growI 49 = .ok (.invokestatic 79, 3) := by decide +kernel
theorem d_AL_growI_52 : decode b_AL_growI 52 = .ok (.anewarray 7, 3) := by decide +kernel
theorem d_AL_growI_55 : decode b_AL_growI 55 = .ok (.dup_x1, 1) := by decide +kernel
theorem d_AL_growI_56 : decode b_AL_growI 56 = .ok (.putfield 9, 3) := by decide +kernel
theorem d_AL_growI_59 : decode b_AL_growI 59 = .ok (.areturn, 1) := by decide +kernel
theorem d_As_newLength_0 : decode b_As_newLength 0 = .ok (.iload_n 0, 1) := by decide +kernel
theorem d_As_newLength_1 : decode b_As_newLength 1 = .ok (.iload_n 1, 1) := by decide +kernel
theorem d_As_newLength_2 : decode b_As_newLength 2 = .ok (.iload_n 2, 1) := by decide +kernel
theorem d_As_newLength_3 : decode b_As_newLength 3 = .ok (.invokestatic 194, 3) := by decide +kernel
theorem d_As_newLength_6 : decode b_As_newLength 6 = .ok (.iadd, 1) := by decide +kernel
theorem d_As_newLength_7 : decode b_As_newLength 7 = .ok (.istore_n 3, 1) := by decide +kernel
theorem d_As_newLength_8 : decode b_As_newLength 8 = .ok (.iconst 0, 1) := by decide +kernel
theorem d_As_newLength_9 : decode b_As_newLength 9 = .ok (.iload_n 3, 1) := by decide +kernel
theorem d_As_newLength_10 : decode b_As_newLength 10 = .ok (.if_icmp .ge 11, 3) := by decide +kernel
theorem d_As_newLength_13 : decode b_As_newLength 13 = .ok (.iload_n 3, 1) := by decide +kernel
theorem d_As_newLength_14 : decode b_As_newLength 14 = .ok (.ldc 200, 2) := by decide +kernel
theorem d_As_newLength_16 : decode b_As_newLength 16 = .ok (.if_icmp .gt 5, 3) := by decide +kernel
theorem d_As_newLength_19 : decode b_As_newLength 19 = .ok (.iload_n 3, 1) := by decide +kernel
theorem d_As_newLength_20 : decode b_As_newLength 20 = .ok (.ireturn, 1) := by decide +kernel
theorem d_As_newLength_21 : decode b_As_newLength 21 = .ok (.iload_n 0, 1) := by decide +kernel
theorem d_As_newLength_22 : decode b_As_newLength 22 = .ok (.iload_n 1, 1) := by decide +kernel
theorem d_As_newLength_23 : decode b_As_newLength 23 = .ok (.invokestatic 201, 3) := by decide +kernel
theorem d_As_newLength_26 : decode b_As_newLength 26 = .ok (.ireturn, 1) := by decide +kernel
theorem d_Mt_max_0 : decode b_Mt_max 0 = .ok (.iload_n 0, 1) := by decide +kernel
theorem d_Mt_max_1 : decode b_Mt_max 1 = .ok (.iload_n 1, 1) := by decide +kernel
theorem d_Mt_max_2 : decode b_Mt_max 2 = .ok (.if_icmp .lt 7, 3) := by decide +kernel
theorem d_Mt_max_5 : decode b_Mt_max 5 = .ok (.iload_n 0, 1) := by decide +kernel
theorem d_Mt_max_6 : decode b_Mt_max 6 = .ok (.goto 4, 3) := by decide +kernel
theorem d_Mt_max_9 : decode b_Mt_max 9 = .ok (.iload_n 1, 1) := by decide +kernel
theorem d_Mt_max_10 : decode b_Mt_max 10 = .ok (.ireturn, 1) := by decide +kernel
theorem d_As_hugeLength_0 : decode b_As_hugeLength 0 = .ok (.iload_n 0, 1) := by decide +kernel
theorem d_As_hugeLength_1 : decode b_As_hugeLength 1 = .ok (.iload_n 1, 1) := by decide +kernel
theorem d_As_hugeLength_2 : decode b_As_hugeLength 2 = .ok (.iadd, 1) := by decide +kernel
theorem d_As_hugeLength_3 : decode b_As_hugeLength 3 = .ok (.istore_n 2, 1) := by decide +kernel
theorem d_As_hugeLength_4 : decode b_As_hugeLength 4 = .ok (.iload_n 2, 1) := by decide +kernel
theorem d_As_hugeLength_5 : decode b_As_hugeLength 5 = .ok (.ifCond .ge 44, 3) := by decide +kernel
theorem d_As_hugeLength_8 : decode b_As_hugeLength 8 = .ok (.new 204, 3) := by decide +kernel
theorem d_As_hugeLength_11 : decode b_As_hugeLength 11 = .ok (.dup, 1) := by decide +kernel
theorem d_As_hugeLength_12 : decode b_As_hugeLength 12 = .ok (.new 89, 3) := by decide +kernel
theorem d_As_hugeLength_15 : decode b_As_hugeLength 15 = .ok (.dup, 1) := by decide +kernel
theorem d_As_hugeLength_16 : decode b_As_hugeLength 16 = .ok (.invokespecial 91, 3) := by decide +kernel
theorem d_As_hugeLength_19 : decode b_As_hugeLength 19 = .ok (.ldc 206, 2) := by decide +kernel
theorem d_As_hugeLength_21 : decode b_As_hugeLength 21 = .ok (.invokevirtual 94, 3) := by decide +kernel
theorem d_As_hugeLength_24 : decode b_As_hugeLength 24 = .ok (.iload_n 0, 1) := by decide +kernel
theorem d_As_hugeLength_25 : decode b_As_hugeLength 25 = .ok (.invokevirtual 98, 3) := by decide +kernel
theorem d_As_hugeLength_28 : decode b_As_hugeLength 28 = .ok (.ldc 208, 2) := by decide +kernel
theorem d_As_hugeLength_30 : decode b_As_hugeLength 30 = .ok (.invokevirtual 94, 3) := by decide +kernel
theorem d_As_hugeLength_33 : decode b_As_hugeLength 33 = .ok (.iload_n 1, 1) := by decide +kernel
theorem d_As_hugeLength_34 : decode b_As_hugeLength 34 = .ok (.invokevirtual 98, 3) := by decide +kernel
theorem d_As_hugeLength_37 : decode b_As_hugeLength 37 = .ok (.ldc 210, 2) := by decide +kernel
theorem d_As_hugeLength_39 : decode b_As_hugeLength 39 = .ok (.invokevirtual 94, 3) := by decide +kernel
theorem d_As_hugeLength_42 : decode b_As_hugeLength 42 = .ok (.invokevirtual 101, 3) := by decide +kernel
theorem d_As_hugeLength_45 : decode b_As_hugeLength 45 = .ok (.invokespecial 212, 3) := by decide +kernel
theorem d_As_hugeLength_48 : decode b_As_hugeLength 48 = .ok (.athrow, 1) := by decide +kernel
theorem d_As_hugeLength_49 : decode b_As_hugeLength 49 = .ok (.iload_n 2, 1) := by decide +kernel
theorem d_As_hugeLength_50 : decode b_As_hugeLength 50 = .ok (.ldc 200, 2) := by decide +kernel
theorem d_As_hugeLength_52 : decode b_As_hugeLength 52 = .ok (.if_icmp .gt 6, 3) := by decide +kernel
theorem d_As_hugeLength_55 : decode b_As_hugeLength 55 = .ok (.ldc 200, 2) := by decide +kernel
theorem d_As_hugeLength_57 : decode b_As_hugeLength 57 = .ok (.ireturn, 1) := by decide +kernel
theorem d_As_hugeLength_58 : decode b_As_hugeLength 58 = .ok (.iload_n 2, 1) := by decide +kernel
theorem d_As_hugeLength_59 : decode b_As_hugeLength 59 = .ok (.ireturn, 1) := by decide +kernel
theorem d_Ar_copyOf_0 : decode b_Ar_copyOf 0 = .ok (.aload_n 0, 1) := by decide +kernel
theorem d_Ar_copyOf_1 : decode b_Ar_copyOf 1 = .ok (.iload_n 1, 1) := by decide +kernel
theorem d_Ar_copyOf_2 : decode b_Ar_copyOf 2 = .ok (.aload_n 0, 1) := by decide +kernel
theorem d_Ar_copyOf_3 : decode b_Ar_copyOf 3 = .ok (.invokevirtual 86, 3) := by decide +kernel
theorem d_Ar_copyOf_6 : decode b_Ar_copyOf 6 = .ok (.invokestatic 300, 3) := by decide +kernel
theorem d_Ar_copyOf_9 : decode b_Ar_copyOf 9 = .ok (.areturn, 1) := by decide +kernel
theorem d_Ar_copyOf3_0 : decode b_Ar_copyOf3 0 = .ok (.aload_n 2, 1) := by decide +kernel
theorem d_Ar_copyOf3_1 : decode b_Ar_copyOf3 1 = .ok (.ldc 110, 2) := by decide +kernel
theorem d_Ar_copyOf3_3 : decode b_Ar_copyOf3 3 = .ok (.if_acmp .ne 10, 3) := by decide +kernel
theorem d_Ar_copyOf3_6 : decode b_Ar_copyOf3 6 = .ok (.iload_n 1, 1) := by decide +kernel
theorem d_Ar_copyOf3_7 : decode b_Ar_copyOf3 7 = .ok (.anewarray 2, 3) := by decide +kernel
theorem d_Ar_copyOf3_10 : decode b_Ar_copyOf3 10 = .ok (.goto 14, 3) := by decide +kernel
theorem d_Ar_copyOf3_13 : decode b_Ar_copyOf3 13 = .ok (.aload_n 2, 1) := by decide +kernel
theorem d_Ar_copyOf3_14 : decode b_Ar_copyOf3 14 = .ok (.invokevirtual 90, 3) := by decide +kernel
theorem d_Ar_copyOf3_17 : decode b_Ar_copyOf3 17 = .ok (.iload_n 1, 1) := by decide +kernel
theorem d_Ar_copyOf3_18 : decode b_Ar_copyOf3 18 = .ok (.invokestatic 95, 3) := by decide +kernel
theorem d_Ar_copyOf3_21 : decode b_Ar_copyOf3 21 = .ok (.checkcast 110, 3) := by decide +kernel
theorem d_Ar_copyOf3_24 : decode b_Ar_copyOf3 24 = .ok (.astore_n 3, 1) := by decide +kernel
theorem d_Ar_copyOf3_25 : decode b_Ar_copyOf3 25 = .ok (.aload_n 0, 1) := by decide +kernel
theorem d_Ar_copyOf3_26 : decode b_Ar_copyOf3 26 = .ok (.iconst 0, 1) := by decide +kernel
theorem d_Ar_copyOf3_27 : decode b_Ar_copyOf3 27 = .ok (.aload_n 3, 1) := by decide +kernel
theorem d_Ar_copyOf3_28 : decode b_Ar_copyOf3 28 = .ok (.iconst 0, 1) := by decide +kernel
theorem d_Ar_copyOf3_29 : decode b_Ar_copyOf3 29 = .ok (.aload_n 0, 1) := by decide +kernel
theorem d_Ar_copyOf3_30 : decode b_Ar_copyOf3 30 = .ok (.arraylength, 1) := by decide +kernel
theorem d_Ar_copyOf3_31 : decode b_Ar_copyOf3 31 = .ok (.iload_n 1, 1) := by decide +kernel
theorem d_Ar_copyOf3_32 : decode b_Ar_copyOf3 32 = .ok (.invokestatic 304, 3) := by decide +kernel
theorem d_Ar_copyOf3_35 : decode b_Ar_copyOf3 35 = .ok (.invokestatic 150, 3) := by decide +kernel
theorem d_Ar_copyOf3_38 : decode b_Ar_copyOf3 38 = .ok (.aload_n 3, 1) := by decide +kernel
theorem d_Ar_copyOf3_39 : decode b_Ar_copyOf3 39 = .ok (.areturn, 1) := by decide +kernel
theorem d_Mt_min_0 : decode b_Mt_min 0 = .ok (.iload_n 0, 1) := by decide +kernel
theorem d_Mt_min_1 : decode b_Mt_min 1 = .ok (.iload_n 1, 1) := by decide +kernel
theorem d_Mt_min_2 : decode b_Mt_min 2 = .ok (.if_icmp .gt 7, 3) := by decide +kernel
theorem d_Mt_min_5 : decode b_Mt_min 5 = .ok (.iload_n 0, 1) := by decide +kernel
theorem d_Mt_min_6 : decode b_Mt_min 6 = .ok (.goto 4, 3) := by decide +kernel
theorem d_Mt_min_9 : decode b_Mt_min 9 = .ok (.iload_n 1, 1) := by decide +kernel
theorem d_Mt_min_10 : decode b_Mt_min 10 = .ok (.ireturn, 1) := by decide +kernel
theorem d_AL_get_0 : decode b_AL_get 0 = .ok (.iload_n 1, 1) := by decide +kernel
theorem d_AL_get_1 : decode b_AL_get 1 = .ok (.aload_n 0, 1) := by decide +kernel
theorem d_AL_get_2 : decode b_AL_get 2 = .ok (.getfield 48, 3) := by decide +kernel
theorem d_AL_get_5 : decode b_AL_get 5 = .ok (.invokestatic 118, 3) := by decide +kernel
theorem d_AL_get_8 : decode b_AL_get 8 = .ok (.pop, 1) := by decide +kernel
theorem d_AL_get_9 : decode b_AL_get 9 = .ok (.aload_n 0, 1) := by decide +kernel
theorem d_AL_get_10 : decode b_AL_get 10 = .ok (.iload_n 1, 1) := by decide +kernel
theorem d_AL_get_11 : decode b_AL_get 11 = .ok (.invokevirtual 123, 3) := by decide +kernel
theorem d_AL_get_14 : decode b_AL_get 14 = .ok (.areturn, 1) := by decide +kernel
theorem d_Os_checkIndex_0 : decode b_Os_checkIndex 0 = .ok (.iload_n 0, 1) := by decide +kernel
theorem d_Os_checkIndex_1 : decode b_Os_checkIndex 1 = .ok (.iload_n 1, 1) := by decide +kernel
theorem d_Os_checkIndex_2 : decode b_Os_checkIndex 2 = .ok (.aconst_null, 1) := by decide +kernel
theorem d_Os_checkIndex_3 : decode b_Os_checkIndex 3 = .ok (.invokestatic 105, 3) := by decide +kernel
theorem d_Os_checkIndex_6 : decode b_Os_checkIndex 6 = .ok (.ireturn, 1) := by decide +kernel
theorem d_Pc_checkIndex_0 : decode b_Pc_checkIndex 0 = .ok (.iload_n 0, 1) := by decide +kernel
theorem d_Pc_checkIndex_1 : decode b_Pc_checkIndex 1 = .ok (.ifCond .lt 8, 3) := by decide +kernel
theorem d_Pc_checkIndex_4 : decode b_Pc_checkIndex 4 = .ok (.iload_n 0, 1) := by decide +kernel
theorem d_Pc_checkIndex_5 : decode b_Pc_checkIndex 5 = .ok (.iload_n 1, 1) := by decide +kernel
theorem d_Pc_checkIndex_6 : decode b_Pc_checkIndex 6 = .ok (.if_icmp .lt 10, 3) := by decide +kernel
theorem d_Pc_checkIndex_9 : decode b_Pc_checkIndex 9 = .ok (.aload_n 2, 1) := by decide +kernel
theorem d_Pc_checkIndex_10 : decode b_Pc_checkIndex 10 = .ok (.iload_n 0, 1) := by decide +kernel
theorem d_Pc_checkIndex_11 : decode b_Pc_checkIndex 11 = .ok (.iload_n 1, 1) := by decide +kernel
theorem d_Pc_checkIndex_12 : decode b_Pc_checkIndex 12 = .ok (.invokestatic 95, 3) := by decide +kernel
theorem d_Pc_checkIndex_15 : decode b_Pc_checkIndex 15 = .ok (.athrow, 1) := by decide +kernel
theorem d_Pc_checkIndex_16 : decode b_Pc_checkIndex 16 = .ok (.iload_n 0, 1) := by decide +kernel
theorem d_Pc_checkIndex_17 : decode b_Pc_checkIndex 17 = .ok (.ireturn, 1) := by decide +kernel
theorem d_AL_elementData_0 : decode b_AL_elementData 0 = .ok (.aload_n 0, 1) := by decide +kernel
theorem d_AL_elementData_1 : decode b_AL_elementData 1 = .ok (.getfield 9, 3) := by decide +kernel
theorem d_AL_elementData_4 : decode b_AL_elementData 4 = .ok (.iload_n 1, 1) := by decide +kernel
theorem d_AL_elementData_5 : decode b_AL_elementData 5 = .ok (.aaload, 1) := by decide +kernel
theorem d_AL_elementData_6 : decode b_AL_elementData 6 = .ok (.areturn, 1) := by decide +kernel
theorem d_Mt_floorMod_0 : decode b_Mt_floorMod 0 = .ok (.iload_n 0, 1) := by decide +kernel
theorem d_Mt_floorMod_1 : decode b_Mt_floorMod 1 = .ok (.iload_n 1, 1) := by decide +kernel
theorem d_Mt_floorMod_2 : decode b_Mt_floorMod 2 = .ok (.irem, 1) := by decide +kernel
theorem d_Mt_floorMod_3 : decode b_Mt_floorMod 3 = .ok (.istore_n 2, 1) := by decide +kernel
theorem d_Mt_floorMod_4 : decode b_Mt_floorMod 4 = .ok (.iload_n 0, 1) := by decide +kernel
theorem d_Mt_floorMod_5 : decode b_Mt_floorMod 5 = .ok (.iload_n 1, 1) := by decide +kernel
theorem d_Mt_floorMod_6 : decode b_Mt_floorMod 6 = .ok (.ixor, 1) := by decide +kernel
theorem d_Mt_floorMod_7 : decode b_Mt_floorMod 7 = .ok (.ifCond .ge 11, 3) := by decide +kernel
theorem d_Mt_floorMod_10 : decode b_Mt_floorMod 10 = .ok (.iload_n 2, 1) := by decide +kernel
theorem d_Mt_floorMod_11 : decode b_Mt_floorMod 11 = .ok (.ifCond .eq 7, 3) := by decide +kernel
theorem d_Mt_floorMod_14 : decode b_Mt_floorMod 14 = .ok (.iload_n 2, 1) := by decide +kernel
theorem d_Mt_floorMod_15 : decode b_Mt_floorMod 15 = .ok (.iload_n 1, 1) := by decide +kernel
theorem d_Mt_floorMod_16 : decode b_Mt_floorMod 16 = .ok (.iadd, 1) := by decide +kernel
theorem d_Mt_floorMod_17 : decode b_Mt_floorMod 17 = .ok (.ireturn, 1) := by decide +kernel
theorem d_Mt_floorMod_18 : decode b_Mt_floorMod 18 = .ok (.iload_n 2, 1) := by decide +kernel
theorem d_Mt_floorMod_19 : decode b_Mt_floorMod 19 = .ok (.ireturn, 1) := by decide +kernel
end
section
/-! Small words on numbers and truth values. -/
def bI (x : Bool) : Int32 := if x then 1 else 0
theorem bI_t : bI true = 1 := rfl
theorem bI_f : bI false = 0 := rfl
theorem bI_0 {x : Bool} : bI x = 0 ↔ x = false := by cases x <;> decide
theorem bI_1 {x : Bool} : bI x = 1 ↔ x = true := by cases x <;> decide
theorem bI_nar (x : Bool) : narrow .boolean (.int (bI x)) = .int (bI x) := by cases x <;> rfl
theorem bI_fit (x : Bool) : fits .boolean (.int (bI x)) = true := by cases x <;> rfl
def inR (x lo hi : Int32) : Bool := !decide (x < lo) && !decide (hi < x)
def wantd (x z n : Int32) : Bool := if z = 0 then decide (x = n) else if z = 1 then !decide (x < n) else !decide (n < x)
theorem inR_of {x M : Int32} {n : Nat} (hM : M.toInt = n) (h : inR x 0 M = true) : ∃ j : Nat, j ≤ n ∧ x = nI j := by
  simp only [inR, Bool.and_eq_true, Bool.not_eq_true', decide_eq_false_iff_not] at h
  exact nI_of2 hM h.1 (Int32.not_lt.mp h.2)
theorem rem4 {k : Nat} (h : k < 2 ^ 31) : nI k - nI k / 4 * 4 = nI (k % 4) := pk_rem (d := 4) h (by decide) (by decide)
theorem rem8 {k : Nat} (h : k < 2 ^ 31) : nI k - nI k / 8 * 8 = nI (k % 8) := pk_rem (d := 8) h (by decide) (by decide)
theorem div8 {k : Nat} (h : k < 2 ^ 31) : nI k / 8 = nI (k / 8) := pk_div (d := 8) h (by decide) (by decide)
end
section
set_option maxHeartbeats 4000000 in
set_option maxRecDepth 100000 in
theorem c_MB_isWithin (l : Launch)  (x lo hi : Int32) : Met l y_MB_isWithin (Cond.code y_MB_isWithin b_MB_isWithin 3 (some .boolean) :: TT) ({ frames := 0, cells := 0, slots := 0, locals := 0 }) (va_Pc [.int x, .int lo, .int hi] (fun _ => True)) (vp_Si (fun r => r = bI (inR x lo hi))) 0 0 (fun _ => False) := by
  refine Met.ofG (own := R_MB) (by decide) rfl (Nat.le_of_ble_eq_true rfl) ?_
  intro p e s m below meth c ls hx hb hr hlk hml hown hnm hts hI hl
  have hl : lv_has ls 3 [(0, .int x), (1, .int lo), (2, .int hi)] := hl
  refine lv_iload_n hx hb d_MB_isWithin_0 rfl (lv_at hl 0 rfl) ?_
  refine lv_iload_n hx hb d_MB_isWithin_1 rfl (lv_at hl 1 rfl) ?_
  refine lv_icmp_lt (tgt := 14) hx hb d_MB_isWithin_2 (by decide) (fun c1 => ?_) (fun c1 => ?_)
  · skip
    refine lv_iconst (v := 0) hx hb d_MB_isWithin_14 (by decide) ?_
    exact W.zret hx hb hr rfl (fun t ht _ => ⟨_, rfl, (by simp [bI, inR, *]), ht⟩) (fun _ h => nomatch h) d_MB_isWithin_15
  · skip
    refine lv_iload_n hx hb d_MB_isWithin_5 rfl (lv_at hl 0 rfl) ?_
    refine lv_iload_n hx hb d_MB_isWithin_6 rfl (lv_at hl 2 rfl) ?_
    refine lv_icmp_gt (tgt := 14) hx hb d_MB_isWithin_7 (by decide) (fun c2 => ?_) (fun c2 => ?_)
    · skip
      refine lv_iconst (v := 0) hx hb d_MB_isWithin_14 (by decide) ?_
      exact W.zret hx hb hr rfl (fun t ht _ => ⟨_, rfl, (by simp [bI, inR, *]), ht⟩) (fun _ h => nomatch h) d_MB_isWithin_15
    · skip
      refine lv_iconst (v := 1) hx hb d_MB_isWithin_10 (by decide) ?_
      refine lv_goto (tgt := 15) hx hb d_MB_isWithin_11 (by decide) ?_
      exact W.zret hx hb hr rfl (fun t ht _ => ⟨_, rfl, (by simp [bI, inR, *]), ht⟩) (fun _ h => nomatch h) d_MB_isWithin_15
set_option maxHeartbeats 4000000 in
set_option maxRecDepth 100000 in
theorem c_MB_isMock (l : Launch)  (x : Int32) : Met l y_MB_isMock (Cond.code y_MB_isMock b_MB_isMock 1 (some .boolean) :: TT) ({ frames := 1, cells := 0, slots := 0, locals := 22 }) (va_Pc [.int x] (fun _ => True)) (vp_Si (fun r => r = bI (inR x 0 3))) 0 0 (fun _ => False) := by
  refine Met.ofG (own := R_MB) (by decide) rfl (Nat.le_of_ble_eq_true rfl) ?_
  intro p e s m below meth c ls hx hb hr hlk hml hown hnm hts hI hl
  have hl : lv_has ls 1 [(0, .int x)] := hl
  refine lv_iload_n hx hb d_MB_isMock_0 rfl (lv_at hl 0 rfl) ?_
  refine lv_iconst (v := 0) hx hb d_MB_isMock_1 (by decide) ?_
  refine lv_iconst (v := 3) hx hb d_MB_isMock_2 (by decide) ?_
  refine g_ri (g_runS (As := [.int x, .int 0, .int 3]) (rest := []) ⟨hx, hb, hml, hown, hts⟩ (c_MB_isWithin l x 0 3) st_MB_isWithin k_88 ⟨rfl, rfl, by decide, by decide⟩ (gT_pre _) rfl hl.1 rfl (Nat.le_of_ble_eq_true rfl) d_MB_isMock_3 ⟨by decide, by decide⟩) (fun r1 hr1 => ?_)
  subst hr1
  exact W.zret hx hb hr (bI_nar _) (fun t ht _ => ⟨_, rfl, rfl, ht⟩) (fun _ h => nomatch h) d_MB_isMock_6
set_option maxHeartbeats 4000000 in
set_option maxRecDepth 100000 in
theorem c_MB_isMethod (l : Launch)  (x z : Int32) : Met l y_MB_isMethod (Cond.code y_MB_isMethod b_MB_isMethod 2 (some .boolean) :: TT) ({ frames := 2, cells := 0, slots := 0, locals := 42 }) (va_Pc [.int x, .int z] (fun _ => True)) (vp_Si (fun r => r = bI (inR x 0 3 && inR z 0 7))) 0 0 (fun _ => False) := by
  refine Met.ofG (own := R_MB) (by decide) rfl (Nat.le_of_ble_eq_true rfl) ?_
  intro p e s m below meth c ls hx hb hr hlk hml hown hnm hts hI hl
  have hl : lv_has ls 2 [(0, .int x), (1, .int z)] := hl
  refine lv_iload_n hx hb d_MB_isMethod_0 rfl (lv_at hl 0 rfl) ?_
  refine g_ri (g_runS (As := [.int x]) (rest := []) ⟨hx, hb, hml, hown, hts⟩ (c_MB_isMock l x) st_MB_isMock k_110 ⟨rfl, rfl, by decide, by decide⟩ (gT_pre _) rfl hl.1 rfl (Nat.le_of_ble_eq_true rfl) d_MB_isMethod_1 ⟨by decide, by decide⟩) (fun r1 hr1 => ?_)
  subst hr1
  refine lv_if_eq (tgt := 21) hx hb d_MB_isMethod_4 (by decide) (fun c2 => ?_) (fun c2 => ?_)
  · skip
    refine lv_iconst (v := 0) hx hb d_MB_isMethod_21 (by decide) ?_
    exact W.zret hx hb hr rfl (fun t ht _ => ⟨_, rfl, (by simp_all [bI_0, bI]), ht⟩) (fun _ h => nomatch h) d_MB_isMethod_22
  · skip
    refine lv_iload_n hx hb d_MB_isMethod_7 rfl (lv_at hl 1 rfl) ?_
    refine lv_iconst (v := 0) hx hb d_MB_isMethod_8 (by decide) ?_
    refine lv_bipush (v := 7) hx hb d_MB_isMethod_9 (by decide) ?_
    refine g_ri (g_runS (As := [.int z, .int 0, .int 7]) (rest := []) ⟨hx, hb, hml, hown, hts⟩ (c_MB_isWithin l z 0 7) st_MB_isWithin k_88 ⟨rfl, rfl, by decide, by decide⟩ (gT_pre _) rfl hl.1 rfl (Nat.le_of_ble_eq_true rfl) d_MB_isMethod_11 ⟨by decide, by decide⟩) (fun r3 hr3 => ?_)
    subst hr3
    refine lv_if_eq (tgt := 21) hx hb d_MB_isMethod_14 (by decide) (fun c4 => ?_) (fun c4 => ?_)
    · skip
      refine lv_iconst (v := 0) hx hb d_MB_isMethod_21 (by decide) ?_
      exact W.zret hx hb hr rfl (fun t ht _ => ⟨_, rfl, (by simp_all [bI_0, bI]), ht⟩) (fun _ h => nomatch h) d_MB_isMethod_22
    · skip
      refine lv_iconst (v := 1) hx hb d_MB_isMethod_17 (by decide) ?_
      refine lv_goto (tgt := 22) hx hb d_MB_isMethod_18 (by decide) ?_
      exact W.zret hx hb hr rfl (fun t ht _ => ⟨_, rfl, (by simp_all [bI_0, bI]), ht⟩) (fun _ h => nomatch h) d_MB_isMethod_22
set_option maxHeartbeats 4000000 in
set_option maxRecDepth 100000 in
theorem c_MB_argumentsOf (l : Launch)  (x : Int32) : Met l y_MB_argumentsOf (Cond.code y_MB_argumentsOf b_MB_argumentsOf 1 (some .int) :: TT) ({ frames := 0, cells := 0, slots := 0, locals := 0 }) (va_Pc [.int x] (fun _ => True)) (vp_Si (fun r => r = x - x / 4 * 4)) 0 0 (fun _ => False) := by
  refine Met.ofG (own := R_MB) (by decide) rfl (Nat.le_of_ble_eq_true rfl) ?_
  intro p e s m below meth c ls hx hb hr hlk hml hown hnm hts hI hl
  have hl : lv_has ls 1 [(0, .int x)] := hl
  refine lv_iload_n hx hb d_MB_argumentsOf_0 rfl (lv_at hl 0 rfl) ?_
  refine lv_iconst (v := 4) hx hb d_MB_argumentsOf_1 (by decide) ?_
  refine lv_irem hx hb d_MB_argumentsOf_2 (by decide) ?_
  exact W.iret hx hb hr (fun t ht _ => ⟨_, rfl, rfl, ht⟩) (fun _ h => nomatch h) d_MB_argumentsOf_3
set_option maxHeartbeats 4000000 in
set_option maxRecDepth 100000 in
theorem c_MB_asNumber (l : Launch)  (x : Int32) : Met l y_MB_asNumber (Cond.code y_MB_asNumber b_MB_asNumber 1 (some .int) :: TT) ({ frames := 0, cells := 0, slots := 0, locals := 0 }) (va_Pc [.int x] (fun _ => True)) (vp_Si (fun r => r = (if x = 0 then 0 else 1))) 0 0 (fun _ => False) := by
  refine Met.ofG (own := R_MB) (by decide) rfl (Nat.le_of_ble_eq_true rfl) ?_
  intro p e s m below meth c ls hx hb hr hlk hml hown hnm hts hI hl
  have hl : lv_has ls 1 [(0, .int x)] := hl
  refine lv_iload_n hx hb d_MB_asNumber_0 rfl (lv_at hl 0 rfl) ?_
  refine lv_if_eq (tgt := 8) hx hb d_MB_asNumber_1 (by decide) (fun c1 => ?_) (fun c1 => ?_)
  · skip
    refine lv_iconst (v := 0) hx hb d_MB_asNumber_8 (by decide) ?_
    exact W.iret hx hb hr (fun t ht _ => ⟨_, rfl, (by simp [*]), ht⟩) (fun _ h => nomatch h) d_MB_asNumber_9
  · skip
    refine lv_iconst (v := 1) hx hb d_MB_asNumber_4 (by decide) ?_
    refine lv_goto (tgt := 9) hx hb d_MB_asNumber_5 (by decide) ?_
    exact W.iret hx hb hr (fun t ht _ => ⟨_, rfl, (by simp [*]), ht⟩) (fun _ h => nomatch h) d_MB_asNumber_9
set_option maxHeartbeats 4000000 in
set_option maxRecDepth 100000 in
theorem c_MB_isWanted (l : Launch)  (x z n : Int32) : Met l y_MB_isWanted (Cond.code y_MB_isWanted b_MB_isWanted 3 (some .boolean) :: TT) ({ frames := 0, cells := 0, slots := 0, locals := 0 }) (va_Pc [.int x, .int z, .int n] (fun _ => True)) (vp_Si (fun r => r = bI (wantd x z n))) 0 0 (fun _ => False) := by
  refine Met.ofG (own := R_MB) (by decide) rfl (Nat.le_of_ble_eq_true rfl) ?_
  intro p e s m below meth c ls hx hb hr hlk hml hown hnm hts hI hl
  have hl : lv_has ls 3 [(0, .int x), (1, .int z), (2, .int n)] := hl
  refine lv_iload_n hx hb d_MB_isWanted_0 rfl (lv_at hl 1 rfl) ?_
  by_cases c1 : z = 0
  · refine lv_lookup (off := 27) (tgt := 28) hx hb d_MB_isWanted_1 (by decide) (by rw [c1]; decide) (by decide) ?_
    refine lv_iload_n hx hb d_MB_isWanted_28 rfl (lv_at hl 0 rfl) ?_
    refine lv_iload_n hx hb d_MB_isWanted_29 rfl (lv_at hl 2 rfl) ?_
    refine lv_icmp_ne (tgt := 37) hx hb d_MB_isWanted_30 (by decide) (fun c2 => ?_) (fun c2 => ?_)
    · skip
      refine lv_iconst (v := 0) hx hb d_MB_isWanted_37 (by decide) ?_
      exact W.zret hx hb hr rfl (fun t ht _ => ⟨_, rfl, (by simp [bI, wantd, *]), ht⟩) (fun _ h => nomatch h) d_MB_isWanted_38
    · skip
      refine lv_iconst (v := 1) hx hb d_MB_isWanted_33 (by decide) ?_
      refine lv_goto (tgt := 38) hx hb d_MB_isWanted_34 (by decide) ?_
      exact W.zret hx hb hr rfl (fun t ht _ => ⟨_, rfl, (by simp [bI, wantd, *]), ht⟩) (fun _ h => nomatch h) d_MB_isWanted_38
  by_cases c3 : z = 1
  · refine lv_lookup (off := 38) (tgt := 39) hx hb d_MB_isWanted_1 (by decide) (by rw [c3]; decide) (by decide) ?_
    refine lv_iload_n hx hb d_MB_isWanted_39 rfl (lv_at hl 0 rfl) ?_
    refine lv_iload_n hx hb d_MB_isWanted_40 rfl (lv_at hl 2 rfl) ?_
    refine lv_icmp_lt (tgt := 48) hx hb d_MB_isWanted_41 (by decide) (fun c4 => ?_) (fun c4 => ?_)
    · skip
      refine lv_iconst (v := 0) hx hb d_MB_isWanted_48 (by decide) ?_
      exact W.zret hx hb hr rfl (fun t ht _ => ⟨_, rfl, (by simp [bI, wantd, *]), ht⟩) (fun _ h => nomatch h) d_MB_isWanted_49
    · skip
      refine lv_iconst (v := 1) hx hb d_MB_isWanted_44 (by decide) ?_
      refine lv_goto (tgt := 49) hx hb d_MB_isWanted_45 (by decide) ?_
      exact W.zret hx hb hr rfl (fun t ht _ => ⟨_, rfl, (by simp [bI, wantd, *]), ht⟩) (fun _ h => nomatch h) d_MB_isWanted_49
  refine lv_lookup (off := 49) (tgt := 50) hx hb d_MB_isWanted_1 (by decide) (by show Op.lookupswitch.offset [(0, 27), (1, 38)] 49 _ = _; rw [lv_osw c1 (show (0 : Int32).toInt = 0 by decide)]; rw [lv_osw c3 (show (1 : Int32).toInt = 1 by decide)]; rfl) (by decide) ?_
  refine lv_iload_n hx hb d_MB_isWanted_50 rfl (lv_at hl 0 rfl) ?_
  refine lv_iload_n hx hb d_MB_isWanted_51 rfl (lv_at hl 2 rfl) ?_
  refine lv_icmp_gt (tgt := 59) hx hb d_MB_isWanted_52 (by decide) (fun c5 => ?_) (fun c5 => ?_)
  · skip
    refine lv_iconst (v := 0) hx hb d_MB_isWanted_59 (by decide) ?_
    exact W.zret hx hb hr rfl (fun t ht _ => ⟨_, rfl, (by simp [bI, wantd, *]), ht⟩) (fun _ h => nomatch h) d_MB_isWanted_60
  · skip
    refine lv_iconst (v := 1) hx hb d_MB_isWanted_55 (by decide) ?_
    refine lv_goto (tgt := 60) hx hb d_MB_isWanted_56 (by decide) ?_
    exact W.zret hx hb hr rfl (fun t ht _ => ⟨_, rfl, (by simp [bI, wantd, *]), ht⟩) (fun _ h => nomatch h) d_MB_isWanted_60
end
section
/-! The book as a mathematical value, and how the class's cells hold it. -/
abbrev Pr : Type := Int32 × Int32
abbrev X3 : Type := Int32 × Int32 × Int32
/-- a rule: mock, method, matchers, actions, uses, live -/
abbrev Ru : Type := Nat × Nat × List Pr × List Pr × Nat × Bool
/-- an interaction: mock, method, arguments, depth, from, rule's number + 1 (0: none), answer, verified, live -/
abbrev It : Type := Nat × Nat × X3 × Nat × Int32 × Nat × Int64 × Bool × Bool
/-- rules, interactions, strict, buffer, mark + 1 -/
abbrev Bk : Type := List Ru × List It × (Nat → Bool) × List Pr × Nat
abbrev uMk (r : Ru) : Nat := r.1
abbrev uMt (r : Ru) : Nat := r.2.1
abbrev uMs (r : Ru) : List Pr := r.2.2.1
abbrev uAc (r : Ru) : List Pr := r.2.2.2.1
abbrev uUs (r : Ru) : Nat := r.2.2.2.2.1
abbrev uLv (r : Ru) : Bool := r.2.2.2.2.2
abbrev iMk (t : It) : Nat := t.1
abbrev iMt (t : It) : Nat := t.2.1
abbrev iX (t : It) : X3 := t.2.2.1
abbrev iDp (t : It) : Nat := t.2.2.2.1
abbrev iFr (t : It) : Int32 := t.2.2.2.2.1
abbrev iRu (t : It) : Nat := t.2.2.2.2.2.1
abbrev iAn (t : It) : Int64 := t.2.2.2.2.2.2.1
abbrev iVe (t : It) : Bool := t.2.2.2.2.2.2.2.1
abbrev iLv (t : It) : Bool := t.2.2.2.2.2.2.2.2
abbrev kRs (σ : Bk) : List Ru := σ.1
abbrev kIs (σ : Bk) : List It := σ.2.1
abbrev kSt (σ : Bk) : Nat → Bool := σ.2.2.1
abbrev kBu (σ : Bk) : List Pr := σ.2.2.2.1
abbrev kMk (σ : Bk) : Nat := σ.2.2.2.2
def u0 : Ru := (0, 0, [], [], 0, false)
def i0 : It := (0, 0, (0, 0, 0), 0, 0, 0, 0, false, false)
/-- the Matchers object number i at h -/
def rMa (cI : ClassId) (A : gW) (i h : Nat) (ms : List Pr) : Prop := ∃ (hk hv : Nat) (fk fv : Nat → Int32), A (5, i) = some (h, .inr (1, [.ref hk, .ref hv, .int (nI ms.length)])) ∧ A (6, i) = some (hk, .inl (cI, 3, .inl fk)) ∧ A (7, i) = some (hv, .inl (cI, 3, .inl fv)) ∧ ms.length ≤ 3 ∧ ∀ j, j < ms.length → fk j = (ms.getD j (0, 0)).1 ∧ fv j = (ms.getD j (0, 0)).2
/-- the Rule number i at h, its Matchers at hm -/
def rRu (cI : ClassId) (A : gW) (i h hm : Nat) (r : Ru) : Prop := ∃ (hk hv : Nat) (fk fv : Nat → Int32), A (8, i) = some (h, .inr (2, [.int (nI (uMk r)), .int (nI (uMt r)), .ref hm, .ref hk, .ref hv, .int (nI (uAc r).length), .int (nI (uUs r)), .int (bI (uLv r))])) ∧ A (9, i) = some (hk, .inl (cI, 4, .inl fk)) ∧ A (10, i) = some (hv, .inl (cI, 4, .inl fv)) ∧ (uAc r).length ≤ 4 ∧ ∀ j, j < (uAc r).length ∨ j = 0 → fk j = ((uAc r).getD j (0, 0)).1 ∧ fv j = ((uAc r).getD j (0, 0)).2
/-- the Interaction number i at h -/
def rIn (A : gW) (i h : Nat) (t : It) : Prop := A (11, i) = some (h, .inr (3, [.int (nI (iMk t)), .int (nI (iMt t)), .int (iX t).1, .int (iX t).2.1, .int (iX t).2.2, .int (nI (iDp t)), .int (iFr t), .int (nI (iRu t) - 1), .long (iAn t), .int (bI (iVe t)), .int (bI (iLv t))]))
/-- the list number w at h: n objects of the class ci, named (kk, 0), (kk, 1) .., at ad 0, ad 1 .. -/
def rAL (cO : ClassId) (e0 : Nat) (A : gW) (w kk ci h n : Nat) (ad : Nat → Nat) : Prop := ∃ (mo : Int32) (q cap : Nat) (f : Nat → Option Nat), A (1, w) = some (h, .inr (4, [.int mo, .ref q, .int (nI n)])) ∧ (n = 0 ∧ q = e0 ∨ (A (2, w) = some (q, .inl (cO, cap, .inr (.inr (.inr (.inr f))))) ∧ 2 ≤ cap ∧ n ≤ cap ∧ cap ≤ 240 ∧ ∀ i, i < n → f i = some (ad i))) ∧ A (3, 0) = some (e0, gE cO) ∧ ∀ i, i < n → ∃ fs, A (kk, i) = some (ad i, .inr (ci, fs))
def rBk (cI cZ cO : ClassId) (e0 : Nat) (A : gW) (h : Nat) (σ : Bk) : Prop := ∃ (hr hi hs hb : Nat) (aR aI aM : Nat → Nat) (fs : Nat → Int32),
  A (0, 0) = some (h, .inr (0, [.ref hr, .ref hi, .ref hs, .ref hb, .int (nI (kMk σ) - 1)])) ∧
  rAL cO e0 A 0 8 2 hr (kRs σ).length aR ∧ rAL cO e0 A 1 11 3 hi (kIs σ).length aI ∧
  A (4, 0) = some (hs, .inl (cZ, 4, .inl fs)) ∧ (∀ j, j < 4 → fs j = bI (kSt σ j)) ∧
  rMa cI A (kRs σ).length hb (kBu σ) ∧
  (∀ i, i < (kRs σ).length → rMa cI A i (aM i) (uMs ((kRs σ).getD i u0)) ∧ rRu cI A i (aR i) (aM i) ((kRs σ).getD i u0)) ∧
  (∀ i, i < (kIs σ).length → rIn A i (aI i) ((kIs σ).getD i i0))
end
section
set_option maxHeartbeats 4000000 in
set_option maxRecDepth 100000 in
theorem c_Pc_checkIndex (l : Launch)  {x n : Int32} (h0 : ¬ x < 0) (h1 : x < n) : Met l y_Pc_checkIndex (Cond.code y_Pc_checkIndex b_Pc_checkIndex 3 (some .int) :: TT) ({ frames := 0, cells := 0, slots := 0, locals := 0 }) (va_Pc [.int x, .int n, .null] (fun _ => True)) (vp_Si (fun r => r = x)) 0 0 (fun _ => False) := by
  refine Met.ofG (own := R_Pc) (by decide) rfl (Nat.le_of_ble_eq_true rfl) ?_
  intro p e s m below meth c ls hx hb hr hlk hml hown hnm hts hI hl
  have hl : lv_has ls 3 [(0, .int x), (1, .int n), (2, .null)] := hl
  refine lv_iload_n hx hb d_Pc_checkIndex_0 rfl (lv_at hl 0 rfl) ?_
  refine lv_if_lt (tgt := 9) hx hb d_Pc_checkIndex_1 (by decide) (fun h9 => absurd h9 h0) (fun _ => ?_)
  refine lv_iload_n hx hb d_Pc_checkIndex_4 rfl (lv_at hl 0 rfl) ?_
  refine lv_iload_n hx hb d_Pc_checkIndex_5 rfl (lv_at hl 1 rfl) ?_
  refine lv_icmp_lt (tgt := 16) hx hb d_Pc_checkIndex_6 (by decide) (fun _ => ?_) (fun h9 => absurd h1 h9)
  refine lv_iload_n hx hb d_Pc_checkIndex_16 rfl (lv_at hl 0 rfl) ?_
  exact W.iret hx hb hr (fun t ht _ => ⟨_, rfl, rfl, ht⟩) (fun _ h => nomatch h) d_Pc_checkIndex_17
set_option maxHeartbeats 4000000 in
set_option maxRecDepth 100000 in
theorem c_Os_checkIndex (l : Launch)  {x n : Int32} (h0 : ¬ x < 0) (h1 : x < n) : Met l y_Os_checkIndex (Cond.code y_Os_checkIndex b_Os_checkIndex 2 (some .int) :: TT) ({ frames := 1, cells := 0, slots := 0, locals := 22 }) (va_Pc [.int x, .int n] (fun _ => True)) (vp_Si (fun r => r = x)) 0 0 (fun _ => False) := by
  refine Met.ofG (own := R_Os) (by decide) rfl (Nat.le_of_ble_eq_true rfl) ?_
  intro p e s m below meth c ls hx hb hr hlk hml hown hnm hts hI hl
  have hl : lv_has ls 2 [(0, .int x), (1, .int n)] := hl
  refine lv_iload_n hx hb d_Os_checkIndex_0 rfl (lv_at hl 0 rfl) ?_
  refine lv_iload_n hx hb d_Os_checkIndex_1 rfl (lv_at hl 1 rfl) ?_
  refine lv_null hx hb d_Os_checkIndex_2 ?_
  refine g_ri (g_runS (As := [.int x, .int n, .null]) (rest := []) ⟨hx, hb, hml, hown, hts⟩ (c_Pc_checkIndex l h0 h1) st_Pc_checkIndex k_229 ⟨rfl, rfl, by decide, by decide⟩ (gT_pre _) rfl hl.1 rfl (Nat.le_of_ble_eq_true rfl) d_Os_checkIndex_3 ⟨by decide, by decide⟩) (fun r1 hr1 => ?_)
  subst hr1
  exact W.iret hx hb hr (fun t ht _ => ⟨_, rfl, rfl, ht⟩) (fun _ h => nomatch h) d_Os_checkIndex_6
set_option maxHeartbeats 4000000 in
set_option maxRecDepth 100000 in
theorem c_AL_size (l : Launch) {D : va_G} {cI cZ cO cL : ClassId} {b e0 : Nat} {A : gW} {w kk ci h n : Nat} {ad : Nat → Nat} (hL : rAL cO e0 A w kk ci h n ad) : Met l y_AL_size (Cond.code y_AL_size b_AL_size 1 (some .int) :: TT) ({ frames := 0, cells := 0, slots := 0, locals := 0 }) (va_Pc [.ref h] (gI D [(cI, .int), (cZ, .boolean), (cO, .object "java/lang/Object"), (cL, .long)] b e0 A)) (vp_Si (fun r => r = nI n)) 0 0 (fun _ => False) := by
  refine Met.ofG (own := R_AL) (by decide) rfl (Nat.le_of_ble_eq_true rfl) ?_
  intro p e s m below meth c ls hx hb hr hlk hml hown hnm hts hI hl
  have hl : lv_has ls 1 [(0, .ref h)] := hl
  obtain ⟨hP, hK⟩ := hI
  obtain ⟨mo, q, cap, f, fL, hq, fE, hel⟩ := hL
  refine lv_aload_n hx hb d_AL_size_0 rfl (lv_at hl 0 rfl) ?_
  refine g_get hx hb hts i_AL hown hK.1 hP fL rfl 2 (by decide) (hts _ k_38) (fun _ h9 => h9) rfl d_AL_size_1 ?_
  exact W.iret hx hb hr (fun t ht _ => ⟨_, rfl, rfl, ht⟩) (fun _ h => nomatch h) d_AL_size_4
set_option maxHeartbeats 4000000 in
set_option maxRecDepth 100000 in
theorem c_AL_elementData (l : Launch) {D : va_G} {cI cZ cO cL : ClassId} {b e0 : Nat} {A : gW} {w kk ci h n : Nat} {ad : Nat → Nat} (hL : rAL cO e0 A w kk ci h n ad) {i : Nat} (hi : i < n) : Met l y_AL_elementData (Cond.code y_AL_elementData b_AL_elementData 2 (some (.object "java/lang/Object")) :: TT) ({ frames := 0, cells := 0, slots := 0, locals := 0 }) (va_Pc [.ref h, .int (nI i)] (gI D [(cI, .int), (cZ, .boolean), (cO, .object "java/lang/Object"), (cL, .long)] b e0 A)) (gSr (ad i)) 0 0 (fun _ => False) := by
  refine Met.ofG (own := R_AL) (by decide) rfl (Nat.le_of_ble_eq_true rfl) ?_
  intro p e s m below meth c ls hx hb hr hlk hml hown hnm hts hI hl
  have hl : lv_has ls 2 [(0, .ref h), (1, .int (nI i))] := hl
  obtain ⟨hP, hK⟩ := hI
  obtain ⟨mo, q, cap, f, fL, hq, fE, hel⟩ := hL
  rcases hq with ⟨h0, -⟩ | ⟨fA, hc0, hnc, hc1, hf⟩
  · omega
  refine lv_aload_n hx hb d_AL_elementData_0 rfl (lv_at hl 0 rfl) ?_
  refine g_get hx hb hts i_AL hown hK.1 hP fL rfl 1 (by decide) (hts _ k_37) (fun _ h9 => h9) rfl d_AL_elementData_1 ?_
  refine lv_iload_n hx hb d_AL_elementData_4 rfl (lv_at hl 1 rfl) ?_
  refine g_aald (v := .ref ((ad i))) hx hb hK.1 hP 2 fA rfl (vp_in_nI (show i < cap by omega) (by omega)) (by rw [nI_clamp (show i < 2 ^ 31 by omega), hf i hi, show va_rf (some (ad i)) = .ref (ad i) from rfl]) d_AL_elementData_5 ?_
  exact W.aret hx hb hr (Or.inl ⟨_, rfl⟩) (Or.inr ⟨_, rfl⟩) (fun t ht _ => ⟨rfl, ht⟩) (fun _ h => nomatch h) d_AL_elementData_6
set_option maxHeartbeats 4000000 in
set_option maxRecDepth 100000 in
theorem c_AL_get (l : Launch) {D : va_G} {cI cZ cO cL : ClassId} {b e0 : Nat} {A : gW} {w kk ci h n : Nat} {ad : Nat → Nat} (hL : rAL cO e0 A w kk ci h n ad) {i : Nat} (hi : i < n) : Met l y_AL_get (Cond.code y_AL_get b_AL_get 2 (some (.object "java/lang/Object")) :: TT) ({ frames := 2, cells := 0, slots := 0, locals := 43 }) (va_Pc [.ref h, .int (nI i)] (gI D [(cI, .int), (cZ, .boolean), (cO, .object "java/lang/Object"), (cL, .long)] b e0 A)) (gSr (ad i)) 0 0 (fun _ => False) := by
  refine Met.ofG (own := R_AL) (by decide) rfl (Nat.le_of_ble_eq_true rfl) ?_
  intro p e s m below meth c ls hx hb hr hlk hml hown hnm hts hI hl
  have hl : lv_has ls 2 [(0, .ref h), (1, .int (nI i))] := hl
  obtain ⟨hP, hK⟩ := hI
  have hL := hL
  obtain ⟨mo, q, cap, f, fL, hq, fE, hel⟩ := id hL
  have hn : n ≤ 240 := by rcases hq with ⟨h0, -⟩ | ⟨fA, hc0, hnc, hc1, hf⟩ <;> omega
  refine lv_iload_n hx hb d_AL_get_0 rfl (lv_at hl 1 rfl) ?_
  refine lv_aload_n hx hb d_AL_get_1 rfl (lv_at hl 0 rfl) ?_
  refine g_get hx hb hts i_AL hown hK.1 hP fL rfl 2 (by decide) (hts _ k_38) (fun _ h9 => h9) rfl d_AL_get_2 ?_
  refine g_ri (g_runS (As := [.int (nI i), .int (nI n)]) (rest := []) ⟨hx, hb, hml, hown, hts⟩ (c_Os_checkIndex l (nI_pos (show i < 2 ^ 31 by omega)) (nI_lt hi (by omega))) st_Os_checkIndex k_226 ⟨rfl, rfl, by decide, by decide⟩ (gT_pre _) rfl hl.1 rfl (Nat.le_of_ble_eq_true rfl) d_AL_get_5 ⟨by decide, by decide⟩) (fun r1 hr1 => ?_)
  subst hr1
  refine lv_pop hx hb d_AL_get_8 rfl ?_
  refine lv_aload_n hx hb d_AL_get_9 rfl (lv_at hl 0 rfl) ?_
  refine lv_iload_n hx hb d_AL_get_10 rfl (lv_at hl 1 rfl) ?_
  refine g_rr (g_runV (As := [.int (nI i)]) (rest := []) ⟨hx, hb, hml, hown, hts⟩ (c_AL_elementData l hL hi) st_AL_elementData k_232 ⟨rfl, rfl, by decide, by decide⟩ rfl (gI.preV hK va_S.rf hP fL rfl _) rfl hl.1 rfl (Nat.le_of_ble_eq_true rfl) d_AL_get_11 ⟨by decide, by decide⟩) ?_
  exact W.aret hx hb hr (Or.inl ⟨_, rfl⟩) (Or.inr ⟨_, rfl⟩) (fun t ht _ => ⟨rfl, ht⟩) (fun _ h => nomatch h) d_AL_get_14
end
section
/-! What the calls do to the book: pure functions. -/
def argP (x : X3) (p : Int32) : Int32 := if p = 0 then x.1 else if p = 1 then x.2.1 else x.2.2
def flm4 (x : Int32) : Int32 := if 0 ≤ x ^^^ 4 then x - x / 4 * 4 else if x - x / 4 * 4 = 0 then x - x / 4 * 4 else x - x / 4 * 4 + 4
theorem flm4_and (x : Int32) : flm4 x = x &&& 3 := by
  have hx3 : x &&& 3 = nI (x.toBitVec.toNat % 4) := pk_and x 2 (by decide)
  have hN : x.toBitVec.toNat < 4294967296 := x.toBitVec.isLt
  have hsg : (x ^^^ 4) < 0 ↔ x < 0 := by
    rw [Int32.lt_iff_toInt_lt, Int32.lt_iff_toInt_lt]
    have e1 : (x ^^^ 4).toInt = (x.toBitVec ^^^ (4 : Int32).toBitVec).toInt := by rw [← Int32.toBitVec_xor]; rfl
    have e2 : (0 : Int32).toInt = 0 := by decide
    rw [e1, e2]
    have m1 := BitVec.msb_eq_toInt (x := x.toBitVec ^^^ (4 : Int32).toBitVec)
    have m2 := BitVec.msb_eq_toInt (x := x.toBitVec)
    rw [BitVec.msb_xor, show ((4 : Int32).toBitVec).msb = false by decide, Bool.xor_false] at m1
    have m3 : decide ((x.toBitVec ^^^ (4 : Int32).toBitVec).toInt < 0) = decide (x.toBitVec.toInt < 0) := m1.symm.trans m2
    exact decide_eq_decide.mp m3
  have hxi : x.toInt = if 2 * x.toBitVec.toNat < 4294967296 then (x.toBitVec.toNat : Int) else (x.toBitVec.toNat : Int) - 4294967296 := BitVec.toInt_eq_toNat_cond _
  have h4 : (4 : Int32).toInt = 4 := by decide
  have hs0 : 0 ≤ x.toInt → 0 ≤ x.toInt.tmod 4 := fun h => Int.tmod_nonneg 4 h
  have hs1 : x.toInt < 0 → x.toInt.tmod 4 ≤ 0 := fun h => by
    have h1 := Int.tmod_nonneg 4 (show 0 ≤ -x.toInt by omega)
    rw [Int.neg_tmod] at h1
    omega
  have hq : (x / 4).toInt = x.toInt.tdiv 4 := by
    rw [Int32.toInt_div, h4]
    have hb := Int.mul_tdiv_add_tmod x.toInt 4
    have ht := tmod_bounds (a := x.toInt) (M := 4) (by decide)
    rw [Int.bmod_eq_of_le (by split at hxi <;> omega) (by split at hxi <;> omega)]
  have hqm : (x / 4 * 4).toInt = x.toInt.tdiv 4 * 4 := by
    rw [Int32.toInt_mul, hq, h4]
    have hb := Int.mul_tdiv_add_tmod x.toInt 4
    have ht := tmod_bounds (a := x.toInt) (M := 4) (by decide)
    rw [Int.bmod_eq_of_le (by split at hxi <;> omega) (by split at hxi <;> omega)]
  have hm : (x - x / 4 * 4).toInt = x.toInt.tmod 4 := by
    rw [Int32.toInt_sub, hqm]
    have hb := Int.mul_tdiv_add_tmod x.toInt 4
    have ht := tmod_bounds (a := x.toInt) (M := 4) (by decide)
    rw [Int.bmod_eq_of_le (by split at hxi <;> omega) (by split at hxi <;> omega)]
    omega
  rw [hx3]
  apply Int32.toInt_inj.mp
  rw [nI_toInt (by omega)]
  have hb := Int.mul_tdiv_add_tmod x.toInt 4
  have ht := tmod_bounds (a := x.toInt) (M := 4) (by decide)
  unfold flm4
  by_cases hs : x < 0
  · rw [if_neg (fun q => absurd (hsg.mpr hs) (Int32.not_lt.mpr q))]
    have hneg : x.toInt < 0 := by
      have := Int32.lt_iff_toInt_lt.mp hs
      simpa using this
    have hle : x.toInt.tmod 4 ≤ 0 := hs1 hneg
    by_cases hz : x - x / 4 * 4 = 0
    · rw [if_pos hz, hm]
      have : x.toInt.tmod 4 = 0 := by rw [← hm, hz]; decide
      split at hxi <;> omega
    · rw [if_neg hz]
      have hnz : x.toInt.tmod 4 ≠ 0 := fun q => hz (Int32.toInt_inj.mp (by rw [hm, q]; decide))
      rw [Int32.toInt_add, hm, h4, Int.bmod_eq_of_le (by omega) (by omega)]
      split at hxi <;> omega
  · rw [if_pos (Int32.not_lt.mp (fun q => hs (hsg.mp q))), hm]
    have hpos : 0 ≤ x.toInt := by
      have := Int32.not_lt.mp hs
      simpa using Int32.le_iff_toInt_le.mp this
    have hge : 0 ≤ x.toInt.tmod 4 := Int.tmod_nonneg 4 hpos
    split at hxi <;> omega
def fit1 (k v x : Int32) : Bool := if k = 1 then decide (x = v) else if k = 2 then !decide (x = v) else if k = 3 then decide (x < v) else if k = 4 then decide (v < x) else if k = 5 then decide (x &&& 3 = v &&& 3) else true
/-- the matchers from the place i on, k of them, fit -/
def fitN (ms : List Pr) (x : X3) : Nat → Nat → Bool
  | 0, _ => true
  | k + 1, i => fit1 (ms.getD i (0, 0)).1 (ms.getD i (0, 0)).2 (argP x (nI i)) && fitN ms x k (i + 1)
def fitA (ms : List Pr) (x : X3) : Bool := fitN ms x ms.length 0
/-- the greatest place below n, plus one; 0 if there is none -/
def lst (q : Nat → Bool) : Nat → Nat
  | 0 => 0
  | i + 1 => if q i then i + 1 else lst q i
/-- the least place from i on among k, or -10 -/
def fst' (q : Nat → Bool) : Nat → Nat → Int32
  | 0, _ => -10
  | k + 1, i => if q i then nI i else fst' q k (i + 1)
/-- how many places below n -/
def cnt (q : Nat → Bool) : Nat → Nat
  | 0 => 0
  | i + 1 => cnt q i + (if q i then 1 else 0)
def uAns (r : Ru) (mk mt : Nat) (x : X3) : Bool := uLv r && decide (uMk r = mk) && decide (uMt r = mt) && fitA (uMs r) x
def ruFor (rs : List Ru) (mk mt : Nat) (x : X3) : Nat := lst (fun i => uAns (rs.getD i u0) mk mt x) rs.length
/-- a live interaction of the mock and the method that fits -/
def iAsk (bu : List Pr) (mk mt : Nat) (t : It) : Bool := iLv t && decide (iMk t = mk) && decide (iMt t = mt) && fitA bu (iX t)
end
section
set_option maxHeartbeats 4000000 in
set_option maxRecDepth 100000 in
theorem c_In_argument (l : Launch) {D : va_G} {cI cZ cO cL : ClassId} {b e0 : Nat} {A : gW} {i h : Nat} {t : It} (hi : rIn A i h t) (pz : Int32) : Met l y_In_argument (Cond.code y_In_argument b_In_argument 2 (some .int) :: TT) ({ frames := 0, cells := 0, slots := 0, locals := 0 }) (va_Pc [.ref h, .int pz] (gI D [(cI, .int), (cZ, .boolean), (cO, .object "java/lang/Object"), (cL, .long)] b e0 A)) (vp_Si (fun r => r = argP (iX t) pz)) 0 0 (fun _ => False) := by
  refine Met.ofG (own := R_In) (by decide +kernel) rfl (Nat.le_of_ble_eq_true rfl) ?_
  intro p e s m below meth c ls hx hb hr hlk hml hown hnm hts hI hl
  have hl : lv_has ls 2 [(0, .ref h), (1, .int pz)] := hl
  obtain ⟨hP, hK⟩ := hI
  have fI := hi
  unfold rIn at fI
  refine lv_iload_n hx hb d_In_argument_0 rfl (lv_at hl 1 rfl) ?_
  by_cases c1 : pz = 0
  · refine lv_lookup (off := 27) (tgt := 28) hx hb d_In_argument_1 (by decide) (by rw [c1]; decide) (by decide) ?_
    refine lv_aload_n hx hb d_In_argument_28 rfl (lv_at hl 0 rfl) ?_
    refine g_get hx hb hts i_In hown hK.1 hP fI rfl 2 (by decide) (hts _ k_277) (fun _ h9 => h9) rfl d_In_argument_29 ?_
    exact W.iret hx hb hr (fun t ht _ => ⟨_, rfl, (by simp [argP, *]), ht⟩) (fun _ h => nomatch h) d_In_argument_32
  by_cases c2 : pz = 1
  · refine lv_lookup (off := 32) (tgt := 33) hx hb d_In_argument_1 (by decide) (by rw [c2]; decide) (by decide) ?_
    refine lv_aload_n hx hb d_In_argument_33 rfl (lv_at hl 0 rfl) ?_
    refine g_get hx hb hts i_In hown hK.1 hP fI rfl 3 (by decide) (hts _ k_279) (fun _ h9 => h9) rfl d_In_argument_34 ?_
    exact W.iret hx hb hr (fun t ht _ => ⟨_, rfl, (by simp [argP, *]), ht⟩) (fun _ h => nomatch h) d_In_argument_37
  refine lv_lookup (off := 37) (tgt := 38) hx hb d_In_argument_1 (by decide) (by show Op.lookupswitch.offset [(0, 27), (1, 32)] 37 _ = _; rw [lv_osw c1 (show (0 : Int32).toInt = 0 by decide)]; rw [lv_osw c2 (show (1 : Int32).toInt = 1 by decide)]; rfl) (by decide) ?_
  refine lv_aload_n hx hb d_In_argument_38 rfl (lv_at hl 0 rfl) ?_
  refine g_get hx hb hts i_In hown hK.1 hP fI rfl 4 (by decide) (hts _ k_281) (fun _ h9 => h9) rfl d_In_argument_39 ?_
  exact W.iret hx hb hr (fun t ht _ => ⟨_, rfl, (by simp [argP, *]), ht⟩) (fun _ h => nomatch h) d_In_argument_42
set_option maxHeartbeats 4000000 in
set_option maxRecDepth 100000 in
theorem c_Mt_floorMod (l : Launch)  (x : Int32) : Met l y_Mt_floorMod (Cond.code y_Mt_floorMod b_Mt_floorMod 3 (some .int) :: TT) ({ frames := 0, cells := 0, slots := 0, locals := 0 }) (va_Pc [.int x, .int 4] (fun _ => True)) (vp_Si (fun r => r = flm4 x)) 0 0 (fun _ => False) := by
  refine Met.ofGF (own := R_Mt) (by decide +kernel) rfl (Nat.le_of_ble_eq_true rfl) ?_
  intro p e s m below meth c ls hx hb hr hlk hml hown hnm hts hI hl
  have hl : lv_has ls 3 [(0, .int x), (1, .int 4)] := hl
  refine lv_iload_n hx hb d_Mt_floorMod_0 rfl (lv_at hl 0 rfl) ?_
  refine lv_iload_n hx hb d_Mt_floorMod_1 rfl (lv_at hl 1 rfl) ?_
  refine lv_irem hx hb d_Mt_floorMod_2 (by decide) ?_
  refine lv_istore_n (lv' := [(2, .int (x - x / 4 * 4)), (0, .int x), (1, .int 4)]) hx hb d_Mt_floorMod_3 rfl hl (by decide) rfl (fun ls hl => ?_)
  refine lv_iload_n hx hb d_Mt_floorMod_4 rfl (lv_at hl 1 rfl) ?_
  refine lv_iload_n hx hb d_Mt_floorMod_5 rfl (lv_at hl 2 rfl) ?_
  refine lv_ixor hx hb d_Mt_floorMod_6 ?_
  refine lv_if_ge (tgt := 18) hx hb d_Mt_floorMod_7 (by decide) (fun c1 => ?_) (fun c1 => ?_)
  · skip
    refine lv_iload_n hx hb d_Mt_floorMod_18 rfl (lv_at hl 0 rfl) ?_
    exact W.iret hx hb hr (fun t ht _ => ⟨_, rfl, (by simp [flm4, *]), ht⟩) (fun _ h => nomatch h) d_Mt_floorMod_19
  · skip
    refine lv_iload_n hx hb d_Mt_floorMod_10 rfl (lv_at hl 0 rfl) ?_
    refine lv_if_eq (tgt := 18) hx hb d_Mt_floorMod_11 (by decide) (fun c2 => ?_) (fun c2 => ?_)
    · skip
      refine lv_iload_n hx hb d_Mt_floorMod_18 rfl (lv_at hl 0 rfl) ?_
      exact W.iret hx hb hr (fun t ht _ => ⟨_, rfl, (by simp [flm4, *]), ht⟩) (fun _ h => nomatch h) d_Mt_floorMod_19
    · skip
      refine lv_iload_n hx hb d_Mt_floorMod_14 rfl (lv_at hl 0 rfl) ?_
      refine lv_iload_n hx hb d_Mt_floorMod_15 rfl (lv_at hl 2 rfl) ?_
      refine lv_iadd hx hb d_Mt_floorMod_16 ?_
      exact W.iret hx hb hr (fun t ht _ => ⟨_, rfl, (by simp [flm4, *]), ht⟩) (fun _ h => nomatch h) d_Mt_floorMod_17
set_option maxHeartbeats 4000000 in
set_option maxRecDepth 100000 in
theorem c_Ma_fitsOne (l : Launch)  (k v x : Int32) : Met l y_Ma_fitsOne (Cond.code y_Ma_fitsOne b_Ma_fitsOne 3 (some .boolean) :: TT) ({ frames := 1, cells := 0, slots := 0, locals := 22 }) (va_Pc [.int k, .int v, .int x] (fun _ => True)) (vp_Si (fun r => r = bI (fit1 k v x))) 0 0 (fun _ => False) := by
  refine Met.ofG (own := R_Ma) (by decide +kernel) rfl (Nat.le_of_ble_eq_true rfl) ?_
  intro p e s m below meth c ls hx hb hr hlk hml hown hnm hts hI hl
  have hl : lv_has ls 3 [(0, .int k), (1, .int v), (2, .int x)] := hl
  refine lv_iload_n hx hb d_Ma_fitsOne_0 rfl (lv_at hl 0 rfl) ?_
  by_cases c1 : k = 1
  · refine lv_tableIn (off := 35) (tgt := 36) hx hb d_Ma_fitsOne_1 (by rw [c1]; decide) (by rw [c1]; decide) (by rw [c1]; rfl) (by decide) ?_
    refine lv_iload_n hx hb d_Ma_fitsOne_36 rfl (lv_at hl 2 rfl) ?_
    refine lv_iload_n hx hb d_Ma_fitsOne_37 rfl (lv_at hl 1 rfl) ?_
    refine lv_icmp_ne (tgt := 45) hx hb d_Ma_fitsOne_38 (by decide) (fun c2 => ?_) (fun c2 => ?_)
    · skip
      refine lv_iconst (v := 0) hx hb d_Ma_fitsOne_45 (by decide) ?_
      exact W.zret hx hb hr rfl (fun t ht _ => ⟨_, rfl, (by simp_all [fit1, bI, flm4_and]), ht⟩) (fun _ h => nomatch h) d_Ma_fitsOne_46
    · skip
      refine lv_iconst (v := 1) hx hb d_Ma_fitsOne_41 (by decide) ?_
      refine lv_goto (tgt := 46) hx hb d_Ma_fitsOne_42 (by decide) ?_
      exact W.zret hx hb hr rfl (fun t ht _ => ⟨_, rfl, (by simp_all [fit1, bI, flm4_and]), ht⟩) (fun _ h => nomatch h) d_Ma_fitsOne_46
  by_cases c3 : k = 2
  · refine lv_tableIn (off := 46) (tgt := 47) hx hb d_Ma_fitsOne_1 (by rw [c3]; decide) (by rw [c3]; decide) (by rw [c3]; rfl) (by decide) ?_
    refine lv_iload_n hx hb d_Ma_fitsOne_47 rfl (lv_at hl 2 rfl) ?_
    refine lv_iload_n hx hb d_Ma_fitsOne_48 rfl (lv_at hl 1 rfl) ?_
    refine lv_icmp_eq (tgt := 56) hx hb d_Ma_fitsOne_49 (by decide) (fun c4 => ?_) (fun c4 => ?_)
    · skip
      refine lv_iconst (v := 0) hx hb d_Ma_fitsOne_56 (by decide) ?_
      exact W.zret hx hb hr rfl (fun t ht _ => ⟨_, rfl, (by simp_all [fit1, bI, flm4_and]), ht⟩) (fun _ h => nomatch h) d_Ma_fitsOne_57
    · skip
      refine lv_iconst (v := 1) hx hb d_Ma_fitsOne_52 (by decide) ?_
      refine lv_goto (tgt := 57) hx hb d_Ma_fitsOne_53 (by decide) ?_
      exact W.zret hx hb hr rfl (fun t ht _ => ⟨_, rfl, (by simp_all [fit1, bI, flm4_and]), ht⟩) (fun _ h => nomatch h) d_Ma_fitsOne_57
  by_cases c5 : k = 3
  · refine lv_tableIn (off := 57) (tgt := 58) hx hb d_Ma_fitsOne_1 (by rw [c5]; decide) (by rw [c5]; decide) (by rw [c5]; rfl) (by decide) ?_
    refine lv_iload_n hx hb d_Ma_fitsOne_58 rfl (lv_at hl 2 rfl) ?_
    refine lv_iload_n hx hb d_Ma_fitsOne_59 rfl (lv_at hl 1 rfl) ?_
    refine lv_icmp_ge (tgt := 67) hx hb d_Ma_fitsOne_60 (by decide) (fun c6 => ?_) (fun c6 => ?_)
    · skip
      refine lv_iconst (v := 0) hx hb d_Ma_fitsOne_67 (by decide) ?_
      exact W.zret hx hb hr rfl (fun t ht _ => ⟨_, rfl, (by simp_all [fit1, bI, flm4_and]), ht⟩) (fun _ h => nomatch h) d_Ma_fitsOne_68
    · skip
      refine lv_iconst (v := 1) hx hb d_Ma_fitsOne_63 (by decide) ?_
      refine lv_goto (tgt := 68) hx hb d_Ma_fitsOne_64 (by decide) ?_
      exact W.zret hx hb hr rfl (fun t ht _ => ⟨_, rfl, (by simp_all [fit1, bI, flm4_and]), ht⟩) (fun _ h => nomatch h) d_Ma_fitsOne_68
  by_cases c7 : k = 4
  · refine lv_tableIn (off := 68) (tgt := 69) hx hb d_Ma_fitsOne_1 (by rw [c7]; decide) (by rw [c7]; decide) (by rw [c7]; rfl) (by decide) ?_
    refine lv_iload_n hx hb d_Ma_fitsOne_69 rfl (lv_at hl 2 rfl) ?_
    refine lv_iload_n hx hb d_Ma_fitsOne_70 rfl (lv_at hl 1 rfl) ?_
    refine lv_icmp_le (tgt := 78) hx hb d_Ma_fitsOne_71 (by decide) (fun c8 => ?_) (fun c8 => ?_)
    · skip
      refine lv_iconst (v := 0) hx hb d_Ma_fitsOne_78 (by decide) ?_
      exact W.zret hx hb hr rfl (fun t ht _ => ⟨_, rfl, (by simp_all [fit1, bI, flm4_and]), ht⟩) (fun _ h => nomatch h) d_Ma_fitsOne_79
    · skip
      refine lv_iconst (v := 1) hx hb d_Ma_fitsOne_74 (by decide) ?_
      refine lv_goto (tgt := 79) hx hb d_Ma_fitsOne_75 (by decide) ?_
      exact W.zret hx hb hr rfl (fun t ht _ => ⟨_, rfl, (by simp_all [fit1, bI, flm4_and]), ht⟩) (fun _ h => nomatch h) d_Ma_fitsOne_79
  by_cases c9 : k = 5
  · refine lv_tableIn (off := 79) (tgt := 80) hx hb d_Ma_fitsOne_1 (by rw [c9]; decide) (by rw [c9]; decide) (by rw [c9]; rfl) (by decide) ?_
    refine lv_iload_n hx hb d_Ma_fitsOne_80 rfl (lv_at hl 2 rfl) ?_
    refine lv_iconst (v := 4) hx hb d_Ma_fitsOne_81 (by decide) ?_
    refine g_ri (g_runS (As := [.int x, .int 4]) (rest := []) ⟨hx, hb, hml, hown, hts⟩ (c_Mt_floorMod l x) st_Mt_floorMod k_337 ⟨rfl, rfl, by decide, by decide⟩ (gT_pre _) rfl hl.1 rfl (Nat.le_of_ble_eq_true rfl) d_Ma_fitsOne_82 ⟨by decide, by decide⟩) (fun r10 hr10 => ?_)
    subst hr10
    refine lv_iload_n hx hb d_Ma_fitsOne_85 rfl (lv_at hl 1 rfl) ?_
    refine lv_iconst (v := 4) hx hb d_Ma_fitsOne_86 (by decide) ?_
    refine g_ri (g_runS (As := [.int v, .int 4]) (rest := [.int (flm4 x)]) ⟨hx, hb, hml, hown, hts⟩ (c_Mt_floorMod l v) st_Mt_floorMod k_337 ⟨rfl, rfl, by decide, by decide⟩ (gT_pre _) rfl hl.1 rfl (Nat.le_of_ble_eq_true rfl) d_Ma_fitsOne_87 ⟨by decide, by decide⟩) (fun r11 hr11 => ?_)
    subst hr11
    refine lv_icmp_ne (tgt := 97) hx hb d_Ma_fitsOne_90 (by decide) (fun c12 => ?_) (fun c12 => ?_)
    · skip
      refine lv_iconst (v := 0) hx hb d_Ma_fitsOne_97 (by decide) ?_
      exact W.zret hx hb hr rfl (fun t ht _ => ⟨_, rfl, (by simp_all [fit1, bI, flm4_and]), ht⟩) (fun _ h => nomatch h) d_Ma_fitsOne_98
    · skip
      refine lv_iconst (v := 1) hx hb d_Ma_fitsOne_93 (by decide) ?_
      refine lv_goto (tgt := 98) hx hb d_Ma_fitsOne_94 (by decide) ?_
      exact W.zret hx hb hr rfl (fun t ht _ => ⟨_, rfl, (by simp_all [fit1, bI, flm4_and]), ht⟩) (fun _ h => nomatch h) d_Ma_fitsOne_98
  refine lv_tableOut (tgt := 99) hx hb d_Ma_fitsOne_1 (by have q0 := lv_neT c1 (show (1 : Int32).toInt = 1 by decide); have q1 := lv_neT c3 (show (2 : Int32).toInt = 2 by decide); have q2 := lv_neT c5 (show (3 : Int32).toInt = 3 by decide); have q3 := lv_neT c7 (show (4 : Int32).toInt = 4 by decide); have q4 := lv_neT c9 (show (5 : Int32).toInt = 5 by decide); omega) (by decide) ?_
  refine lv_iconst (v := 1) hx hb d_Ma_fitsOne_99 (by decide) ?_
  exact W.zret hx hb hr rfl (fun t ht _ => ⟨_, rfl, (by simp_all [fit1, bI, flm4_and]), ht⟩) (fun _ h => nomatch h) d_Ma_fitsOne_100
set_option maxHeartbeats 4000000 in
set_option maxRecDepth 100000 in
theorem c_Ma_suits (l : Launch) {D : va_G} {cI cZ cO cL : ClassId} {b e0 : Nat} {A : gW} {i h : Nat} {ms : List Pr} (hm : rMa cI A i h ms) {k : Nat} (hk8 : k < 8) : Met l y_Ma_suits (Cond.code y_Ma_suits b_Ma_suits 2 (some .boolean) :: TT) ({ frames := 1, cells := 0, slots := 0, locals := 20 }) (va_Pc [.ref h, .int (nI k)] (gI D [(cI, .int), (cZ, .boolean), (cO, .object "java/lang/Object"), (cL, .long)] b e0 A)) (vp_Si (fun r => r = bI (decide (ms.length = k % 4)))) 0 0 (fun _ => False) := by
  refine Met.ofG (own := R_Ma) (by decide +kernel) rfl (Nat.le_of_ble_eq_true rfl) ?_
  intro p e s m below meth c ls hx hb hr hlk hml hown hnm hts hI hl
  have hl : lv_has ls 2 [(0, .ref h), (1, .int (nI k))] := hl
  obtain ⟨hP, hK⟩ := hI
  obtain ⟨hk, hv, fk, fv, fM, fK, fV, hn3, hms⟩ := id hm
  refine lv_aload_n hx hb d_Ma_suits_0 rfl (lv_at hl 0 rfl) ?_
  refine g_get hx hb hts i_Ma hown hK.1 hP fM rfl 2 (by decide) (hts _ k_57) (fun _ h9 => h9) rfl d_Ma_suits_1 ?_
  refine lv_iload_n hx hb d_Ma_suits_4 rfl (lv_at hl 1 rfl) ?_
  refine g_ri (g_runSN (As := [.int (nI k)]) (rest := [.int (nI ms.length)]) ⟨hx, hb, hml, hown, hts⟩ (c_MB_argumentsOf l (nI k)) st_MB_argumentsOf (hK.2.1 _ (List.mem_of_getElem? (i := 1) rfl)) ⟨rfl, rfl, by decide, by decide⟩ (gT_pre _) rfl hl.1 rfl (Nat.le_of_ble_eq_true rfl) d_Ma_suits_5 ⟨by decide, by decide⟩) (fun r1 hr1 => ?_)
  subst hr1
  refine lv_icmp_ne (tgt := 15) hx hb d_Ma_suits_8 (by decide) (fun c2 => ?_) (fun c2 => ?_)
  · skip
    refine lv_iconst (v := 0) hx hb d_Ma_suits_15 (by decide) ?_
    exact W.zret hx hb hr rfl (fun t ht _ => ⟨_, rfl, (by rw [rem4 (by omega)] at *; simp_all [bI, nI_eq (show ms.length < 2 ^ 31 by omega) (show k % 4 < 2 ^ 31 by omega)]), ht⟩) (fun _ h => nomatch h) d_Ma_suits_16
  · skip
    refine lv_iconst (v := 1) hx hb d_Ma_suits_11 (by decide) ?_
    refine lv_goto (tgt := 16) hx hb d_Ma_suits_12 (by decide) ?_
    exact W.zret hx hb hr rfl (fun t ht _ => ⟨_, rfl, (by rw [rem4 (by omega)] at *; simp_all [bI, nI_eq (show ms.length < 2 ^ 31 by omega) (show k % 4 < 2 ^ 31 by omega)]), ht⟩) (fun _ h => nomatch h) d_Ma_suits_16
set_option maxHeartbeats 4000000 in
set_option maxRecDepth 100000 in
theorem c_Ma_fit (l : Launch) {D : va_G} {cI cZ cO cL : ClassId} {b e0 : Nat} {A : gW} {i0 h : Nat} {ms : List Pr} (hm : rMa cI A i0 h ms) {j h2 : Nat} {t : It} (hi : rIn A j h2 t) : Met l y_Ma_fit (Cond.code y_Ma_fit b_Ma_fit 3 (some .boolean) :: TT) ({ frames := 2, cells := 0, slots := 0, locals := 44 }) (va_Pc [.ref h, .ref h2] (gI D [(cI, .int), (cZ, .boolean), (cO, .object "java/lang/Object"), (cL, .long)] b e0 A)) (vp_Si (fun r => r = bI (fitA ms (iX t)))) 0 0 (fun _ => False) := by
  refine Met.ofG (own := R_Ma) (by decide +kernel) rfl (Nat.le_of_ble_eq_true rfl) ?_
  intro p e s m below meth c ls hx hb hr hlk hml hown hnm hts hI hl
  have hl : lv_has ls 3 [(0, .ref h), (1, .ref h2)] := hl
  obtain ⟨hP, hK⟩ := hI
  obtain ⟨hk, hv, fk, fv, fM, fK, fV, hn3, hms⟩ := id hm
  refine lv_iconst (v := 0) hx hb d_Ma_fit_0 (by decide) ?_
  refine lv_istore_n (lv' := [(2, .int 0), (0, .ref h), (1, .ref h2)]) hx hb d_Ma_fit_1 rfl hl (by decide) rfl (fun ls hl => ?_)
  obtain ⟨i, hi0⟩ : ∃ z : Nat, z = 0 := ⟨_, rfl⟩
  obtain ⟨n, hn⟩ : ∃ z : Nat, i + z = ms.length := ⟨ms.length - i, by omega⟩
  replace hl : lv_has ls 3 [(2, .int (nI i)), (0, .ref h), (1, .ref h2)] := by rw [hi0, nI_0]; exact hl
  have hinv : fitN ms (iX t) n i = fitA ms (iX t) := by subst hi0; rw [Nat.zero_add] at hn; rw [hn]; rfl
  clear hi0
  induction n generalizing i ls with
  | zero =>
    refine lv_iload_n hx hb d_Ma_fit_2 rfl (lv_at hl 0 rfl) ?_
    refine lv_aload_n hx hb d_Ma_fit_3 rfl (lv_at hl 1 rfl) ?_
    refine g_get hx hb hts i_Ma hown hK.1 hP fM rfl 2 (by decide) (hts _ k_57) (fun _ h9 => h9) rfl d_Ma_fit_4 ?_
    refine lv_icmp_ge (tgt := 41) hx hb d_Ma_fit_7 (by decide) (fun _ => ?_) (fun h9 => absurd (nI_le (show ms.length ≤ i by omega) (by omega)) h9)
    refine lv_iconst (v := 1) hx hb d_Ma_fit_41 (by decide) ?_
    exact W.zret hx hb hr rfl (fun t ht _ => ⟨_, rfl, (by first | (simp [fitN] at hinv; simp [bI, ← hinv]; done) | (simp_all [fitN, bI]; done)), ht⟩) (fun _ h => nomatch h) d_Ma_fit_42
  | succ n ih =>
    refine lv_iload_n hx hb d_Ma_fit_2 rfl (lv_at hl 0 rfl) ?_
    refine lv_aload_n hx hb d_Ma_fit_3 rfl (lv_at hl 1 rfl) ?_
    refine g_get hx hb hts i_Ma hown hK.1 hP fM rfl 2 (by decide) (hts _ k_57) (fun _ h9 => h9) rfl d_Ma_fit_4 ?_
    refine lv_icmp_ge (tgt := 41) hx hb d_Ma_fit_7 (by decide) (fun h9 => absurd h9 (nI_ge (show i < ms.length by omega) (by omega))) (fun _ => ?_)
    refine lv_aload_n hx hb d_Ma_fit_10 rfl (lv_at hl 1 rfl) ?_
    refine g_get hx hb hts i_Ma hown hK.1 hP fM rfl 0 (by decide) (hts _ k_55) (fun _ h9 => h9) rfl d_Ma_fit_11 ?_
    refine lv_iload_n hx hb d_Ma_fit_14 rfl (lv_at hl 0 rfl) ?_
    refine g_iald (v := (ms.getD i (0, 0)).1) hx hb hK.1 hP 0 fK rfl (vp_in_nI (show i < 3 by omega) (by omega)) (by rw [nI_clamp (show i < 2 ^ 31 by omega), (hms i (by omega)).1]) d_Ma_fit_15 ?_
    refine lv_aload_n hx hb d_Ma_fit_16 rfl (lv_at hl 1 rfl) ?_
    refine g_get hx hb hts i_Ma hown hK.1 hP fM rfl 1 (by decide) (hts _ k_56) (fun _ h9 => h9) rfl d_Ma_fit_17 ?_
    refine lv_iload_n hx hb d_Ma_fit_20 rfl (lv_at hl 0 rfl) ?_
    refine g_iald (v := (ms.getD i (0, 0)).2) hx hb hK.1 hP 0 fV rfl (vp_in_nI (show i < 3 by omega) (by omega)) (by rw [nI_clamp (show i < 2 ^ 31 by omega), (hms i (by omega)).2]) d_Ma_fit_21 ?_
    refine lv_aload_n hx hb d_Ma_fit_22 rfl (lv_at hl 2 rfl) ?_
    refine lv_iload_n hx hb d_Ma_fit_23 rfl (lv_at hl 0 rfl) ?_
    refine g_ri (g_runV (As := [.int (nI i)]) (rest := [.int ((ms.getD i (0, 0)).2), .int ((ms.getD i (0, 0)).1)]) ⟨hx, hb, hml, hown, hts⟩ (c_In_argument l hi (nI i)) st_In_argument k_330 ⟨rfl, rfl, by decide, by decide⟩ rfl (gI.preV hK va_S.rf hP hi rfl _) rfl hl.1 rfl (Nat.le_of_ble_eq_true rfl) d_Ma_fit_24 ⟨by decide, by decide⟩) (fun r3 hr3 => ?_)
    subst hr3
    refine g_ri (g_runS (As := [.int ((ms.getD i (0, 0)).1), .int ((ms.getD i (0, 0)).2), .int (argP (iX t) (nI i))]) (rest := []) ⟨hx, hb, hml, hown, hts⟩ (c_Ma_fitsOne l ((ms.getD i (0, 0)).1) ((ms.getD i (0, 0)).2) (argP (iX t) (nI i))) st_Ma_fitsOne k_334 ⟨rfl, rfl, by decide, by decide⟩ (gT_pre _) rfl hl.1 rfl (Nat.le_of_ble_eq_true rfl) d_Ma_fit_27 ⟨by decide, by decide⟩) (fun r4 hr4 => ?_)
    subst hr4
    refine lv_if_ne (tgt := 35) hx hb d_Ma_fit_30 (by decide) (fun c5 => ?_) (fun c5 => ?_)
    · skip
      refine lv_iinc (v := nI (i + 1)) (lv' := [(2, .int (nI (i + 1))), (0, .ref h), (1, .ref h2)]) hx hb d_Ma_fit_35 hl (k := 0) rfl (nI_1 _) (by decide) rfl (fun ls hl => ?_)
      refine lv_goto (tgt := 2) hx hb d_Ma_fit_38 (by decide) ?_
      exact ih _ _ (by omega) hl (by simp_all [fitN, bI_0])
    · skip
      refine lv_iconst (v := 0) hx hb d_Ma_fit_33 (by decide) ?_
      exact W.zret hx hb hr rfl (fun t ht _ => ⟨_, rfl, (by first | (simp [fitN] at hinv; simp [bI, ← hinv]; done) | (simp_all [fitN, bI]; done)), ht⟩) (fun _ h => nomatch h) d_Ma_fit_34
end
section
/-! What is always so of the book; small words for the roads. -/
theorem dec1 (x : Int32) : x + Int32.ofInt (-1) = x - 1 := by rw [Int32.sub_eq_add_neg]; rfl
theorem bI_ne0 {x : Bool} : ¬ bI x = 0 ↔ x = true := by cases x <;> decide
theorem bI_num (x : Bool) : (if bI x = 0 then 0 else 1) = bI x := by cases x <;> decide
def actOk (mt : Nat) (a : Pr) : Prop := (a.1 = 0 ∨ a.1 = 1 ∨ a.1 = 2 ∨ a.1 = 3 ∨ a.1 = 4) ∧ (a.1 = 1 → ∃ v : Nat, v < mt % 4 ∧ a.2 = nI v) ∧ (a.1 = 4 → ∃ v : Nat, v < 32 ∧ a.2 = nI v)
def wfR (r : Ru) : Prop := uMk r < 4 ∧ uMt r < 8 ∧ uUs r ≤ 160 ∧ (uMs r).length = uMt r % 4 ∧ (uAc r).length ≤ 4 ∧ (∀ j, j < (uAc r).length → actOk (uMt r) ((uAc r).getD j (0, 0))) ∧ ∀ j, j < (uMs r).length → inR ((uMs r).getD j (0, 0)).1 0 5 = true
def wfI (t : It) : Prop := iMk t < 4 ∧ iMt t < 8
def wf (σ : Bk) : Prop := (kRs σ).length ≤ 24 ∧ (kIs σ).length ≤ 160 ∧ (∀ i, i < (kRs σ).length → wfR ((kRs σ).getD i u0)) ∧ (∀ i, i < (kIs σ).length → wfI ((kIs σ).getD i i0) ∧ iRu ((kIs σ).getD i i0) ≤ (kRs σ).length) ∧ (kBu σ).length ≤ 3 ∧ (∀ j, j < (kBu σ).length → inR ((kBu σ).getD j (0, 0)).1 0 5 = true) ∧ kMk σ ≤ (kIs σ).length ∧
  ∀ i, i < (kRs σ).length → uUs ((kRs σ).getD i u0) = cnt (fun k => decide (iRu ((kIs σ).getD k i0) = i + 1)) (kIs σ).length
/-- may the action (k, v) be added to a rule for the method mt -/
def allw (mt : Nat) (k v : Int32) : Bool := if k = 0 ∨ k = 2 ∨ k = 3 then true else if k = 1 then inR v 0 (nI (mt % 4) - 1) else if k = 4 then inR v 0 31 && decide (v.toNatClampNeg % 4 ≤ mt % 4) else false
theorem rem84 {v : Int32} (h : inR v 0 31 = true) : (v - v / 8 * 8) - (v - v / 8 * 8) / 4 * 4 = nI (v.toNatClampNeg % 4) := by
  obtain ⟨j, hj, rfl⟩ := inR_of (M := 31) (n := 31) (by decide) h
  rw [rem8 (by omega), rem4 (by omega), nI_clamp (by omega)]
  congr 1
  omega
theorem plc {u len : Nat} (hu : u ≤ 160) (hl : len ≤ 4) : (if 0 < (if nI len - 1 < nI u then nI len - 1 else nI u) then (if nI len - 1 < nI u then nI len - 1 else nI u) else 0) = nI (min u (len - 1)) := by
  cases len with
  | zero =>
    have h0 : nI 0 - 1 = -1 := by decide
    have h1 : (-1 : Int32) < nI u := by
      rw [Int32.lt_iff_toInt_lt, nI_toInt (by omega), show (-1 : Int32).toInt = -1 by decide]
      omega
    rw [h0, if_pos h1, if_neg (by decide), show min u (0 - 1) = 0 by omega, nI_0]
  | succ k =>
    rw [nI_pred]
    by_cases h : k < u
    · rw [if_pos (nI_lt h (by omega)), show min u (k + 1 - 1) = k by omega]
      by_cases hk : 0 < k
      · rw [if_pos (by rw [← nI_0]; exact nI_lt hk (by omega))]
      · have : k = 0 := by omega
        subst this
        rw [if_neg (by decide), nI_0]
    · rw [if_neg (nI_nlt (by omega) (by omega)), show min u (k + 1 - 1) = u by omega]
      by_cases hk : 0 < u
      · rw [if_pos (by rw [← nI_0]; exact nI_lt hk (by omega))]
      · have : u = 0 := by omega
        subst this
        rw [if_neg (by decide), nI_0]
end
section
set_option maxHeartbeats 4000000 in
set_option maxRecDepth 100000 in
theorem c_Ru_placeInTurn (l : Launch) {D : va_G} {cI cZ cO cL : ClassId} {b e0 : Nat} {A : gW} {i h hm : Nat} {r : Ru} (hr0 : rRu cI A i h hm r) (hu : uUs r ≤ 160) : Met l y_Ru_placeInTurn (Cond.code y_Ru_placeInTurn b_Ru_placeInTurn 1 (some .int) :: TT) ({ frames := 1, cells := 0, slots := 0, locals := 14 }) (va_Pc [.ref h] (gI D [(cI, .int), (cZ, .boolean), (cO, .object "java/lang/Object"), (cL, .long)] b e0 A)) (vp_Si (fun z => z = nI (min (uUs r) ((uAc r).length - 1)))) 0 0 (fun _ => False) := by
  refine Met.ofG (own := R_Ru) (by decide +kernel) rfl (Nat.le_of_ble_eq_true rfl) ?_
  intro p e s m below meth c ls hx hb hr hlk hml hown hnm hts hI hl
  have hl : lv_has ls 1 [(0, .ref h)] := hl
  obtain ⟨hP, hK⟩ := hI
  obtain ⟨hk, hv, fk, fv, fR, fK, fV, hn4, hac⟩ := id hr0
  refine lv_iconst (v := 0) hx hb d_Ru_placeInTurn_0 (by decide) ?_
  refine lv_aload_n hx hb d_Ru_placeInTurn_1 rfl (lv_at hl 0 rfl) ?_
  refine g_get hx hb hts i_Ru hown hK.1 hP fR rfl 6 (by decide) (hts _ k_140) (fun _ h9 => h9) rfl d_Ru_placeInTurn_2 ?_
  refine lv_aload_n hx hb d_Ru_placeInTurn_5 rfl (lv_at hl 0 rfl) ?_
  refine g_get hx hb hts i_Ru hown hK.1 hP fR rfl 5 (by decide) (hts _ k_138) (fun _ h9 => h9) rfl d_Ru_placeInTurn_6 ?_
  refine lv_iconst (v := 1) hx hb d_Ru_placeInTurn_9 (by decide) ?_
  refine lv_isub hx hb d_Ru_placeInTurn_10 ?_
  refine va_mmin hx hb (hml.trans hl.1.symm) hown (hts _ k_349) (hts _ k_207) (hts _ k_9) (hts _ k_208) (by decide) (by decide) (by decide) (by decide) d_Ru_placeInTurn_11 ?_
  refine va_mmax hx hb (hml.trans hl.1.symm) hown (hts _ k_350) (hts _ k_181) (hts _ k_9) (hts _ k_182) (by decide) (by decide) (by decide) (by decide) d_Ru_placeInTurn_14 ?_
  exact W.iret hx hb hr (fun t ht _ => ⟨_, rfl, (plc hu hn4), ht⟩) (fun _ h => nomatch h) d_Ru_placeInTurn_17
set_option maxHeartbeats 4000000 in
set_option maxRecDepth 100000 in
theorem c_Ru_allows (l : Launch) {D : va_G} {cI cZ cO cL : ClassId} {b e0 : Nat} {A : gW} {i h hm : Nat} {r : Ru} (hr0 : rRu cI A i h hm r) (hmt : uMt r < 8) (k v : Int32) : Met l y_Ru_allows (Cond.code y_Ru_allows b_Ru_allows 3 (some .boolean) :: TT) ({ frames := 1, cells := 0, slots := 0, locals := 22 }) (va_Pc [.ref h, .int k, .int v] (gI D [(cI, .int), (cZ, .boolean), (cO, .object "java/lang/Object"), (cL, .long)] b e0 A)) (vp_Si (fun z => z = bI (allw (uMt r) k v))) 0 0 (fun _ => False) := by
  refine Met.ofG (own := R_Ru) (by decide +kernel) rfl (Nat.le_of_ble_eq_true rfl) ?_
  intro p e s m below meth c ls hx hb hr hlk hml hown hnm hts hI hl
  have hl : lv_has ls 3 [(0, .ref h), (1, .int k), (2, .int v)] := hl
  obtain ⟨hP, hK⟩ := hI
  obtain ⟨hk, hv, fk, fv, fR, fK, fV, hn4, hac⟩ := id hr0
  have e4 := rem4 (show uMt r < 2 ^ 31 by omega)
  refine lv_iload_n hx hb d_Ru_allows_0 rfl (lv_at hl 1 rfl) ?_
  by_cases c1 : k = 0
  · refine lv_tableIn (off := 35) (tgt := 36) hx hb d_Ru_allows_1 (by rw [c1]; decide) (by rw [c1]; decide) (by rw [c1]; rfl) (by decide) ?_
    refine lv_iconst (v := 1) hx hb d_Ru_allows_36 (by decide) ?_
    exact W.zret hx hb hr rfl (fun t ht _ => ⟨_, rfl, (by simp [allw, bI_t, bI_f, *]), ht⟩) (fun _ h => nomatch h) d_Ru_allows_37
  by_cases c2 : k = 1
  · refine lv_tableIn (off := 37) (tgt := 38) hx hb d_Ru_allows_1 (by rw [c2]; decide) (by rw [c2]; decide) (by rw [c2]; rfl) (by decide) ?_
    refine lv_iload_n hx hb d_Ru_allows_38 rfl (lv_at hl 2 rfl) ?_
    refine lv_iconst (v := 0) hx hb d_Ru_allows_39 (by decide) ?_
    refine lv_aload_n hx hb d_Ru_allows_40 rfl (lv_at hl 0 rfl) ?_
    refine g_get hx hb hts i_Ru hown hK.1 hP fR rfl 1 (by decide) (hts _ k_132) (fun _ h9 => h9) rfl d_Ru_allows_41 ?_
    refine g_ri (g_runSN (As := [.int (nI (uMt r))]) (rest := [.int 0, .int v]) ⟨hx, hb, hml, hown, hts⟩ (c_MB_argumentsOf l (nI (uMt r))) st_MB_argumentsOf (hK.2.1 _ (List.mem_of_getElem? (i := 2) rfl)) ⟨rfl, rfl, by decide, by decide⟩ (gT_pre _) rfl hl.1 rfl (Nat.le_of_ble_eq_true rfl) d_Ru_allows_44 ⟨by decide, by decide⟩) (fun r3 hr3 => ?_)
    subst hr3
    refine lv_iconst (v := 1) hx hb d_Ru_allows_47 (by decide) ?_
    refine lv_isub hx hb d_Ru_allows_48 ?_
    refine g_ri (g_runSN (As := [.int v, .int 0, .int (((nI (uMt r)) - (nI (uMt r)) / 4 * 4) - 1)]) (rest := []) ⟨hx, hb, hml, hown, hts⟩ (c_MB_isWithin l v 0 (((nI (uMt r)) - (nI (uMt r)) / 4 * 4) - 1)) st_MB_isWithin (hK.2.1 _ (List.mem_of_getElem? (i := 3) rfl)) ⟨rfl, rfl, by decide, by decide⟩ (gT_pre _) rfl hl.1 rfl (Nat.le_of_ble_eq_true rfl) d_Ru_allows_49 ⟨by decide, by decide⟩) (fun r4 hr4 => ?_)
    subst hr4
    exact W.zret hx hb hr (bI_nar _) (fun t ht _ => ⟨_, rfl, (by simp [allw, bI_t, bI_f, *]), ht⟩) (fun _ h => nomatch h) d_Ru_allows_52
  by_cases c5 : k = 2
  · refine lv_tableIn (off := 35) (tgt := 36) hx hb d_Ru_allows_1 (by rw [c5]; decide) (by rw [c5]; decide) (by rw [c5]; rfl) (by decide) ?_
    refine lv_iconst (v := 1) hx hb d_Ru_allows_36 (by decide) ?_
    exact W.zret hx hb hr rfl (fun t ht _ => ⟨_, rfl, (by simp [allw, bI_t, bI_f, *]), ht⟩) (fun _ h => nomatch h) d_Ru_allows_37
  by_cases c6 : k = 3
  · refine lv_tableIn (off := 35) (tgt := 36) hx hb d_Ru_allows_1 (by rw [c6]; decide) (by rw [c6]; decide) (by rw [c6]; rfl) (by decide) ?_
    refine lv_iconst (v := 1) hx hb d_Ru_allows_36 (by decide) ?_
    exact W.zret hx hb hr rfl (fun t ht _ => ⟨_, rfl, (by simp [allw, bI_t, bI_f, *]), ht⟩) (fun _ h => nomatch h) d_Ru_allows_37
  by_cases c7 : k = 4
  · refine lv_tableIn (off := 52) (tgt := 53) hx hb d_Ru_allows_1 (by rw [c7]; decide) (by rw [c7]; decide) (by rw [c7]; rfl) (by decide) ?_
    refine lv_iload_n hx hb d_Ru_allows_53 rfl (lv_at hl 2 rfl) ?_
    refine lv_iconst (v := 0) hx hb d_Ru_allows_54 (by decide) ?_
    refine lv_bipush (v := 31) hx hb d_Ru_allows_55 (by decide) ?_
    refine g_ri (g_runSN (As := [.int v, .int 0, .int 31]) (rest := []) ⟨hx, hb, hml, hown, hts⟩ (c_MB_isWithin l v 0 31) st_MB_isWithin (hK.2.1 _ (List.mem_of_getElem? (i := 3) rfl)) ⟨rfl, rfl, by decide, by decide⟩ (gT_pre _) rfl hl.1 rfl (Nat.le_of_ble_eq_true rfl) d_Ru_allows_57 ⟨by decide, by decide⟩) (fun r8 hr8 => ?_)
    subst hr8
    refine lv_if_eq (tgt := 84) hx hb d_Ru_allows_60 (by decide) (fun c9 => ?_) (fun c9 => ?_)
    · skip
      rw [bI_0] at c9
      refine lv_iconst (v := 0) hx hb d_Ru_allows_84 (by decide) ?_
      exact W.zret hx hb hr rfl (fun t ht _ => ⟨_, rfl, (by simp [allw, bI_t, bI_f, *]), ht⟩) (fun _ h => nomatch h) d_Ru_allows_85
    · skip
      rw [bI_0] at c9
      refine lv_iload_n hx hb d_Ru_allows_63 rfl (lv_at hl 2 rfl) ?_
      refine lv_bipush (v := 8) hx hb d_Ru_allows_64 (by decide) ?_
      refine lv_irem hx hb d_Ru_allows_66 (by decide) ?_
      refine g_ri (g_runSN (As := [.int (v - v / 8 * 8)]) (rest := []) ⟨hx, hb, hml, hown, hts⟩ (c_MB_argumentsOf l (v - v / 8 * 8)) st_MB_argumentsOf (hK.2.1 _ (List.mem_of_getElem? (i := 2) rfl)) ⟨rfl, rfl, by decide, by decide⟩ (gT_pre _) rfl hl.1 rfl (Nat.le_of_ble_eq_true rfl) d_Ru_allows_67 ⟨by decide, by decide⟩) (fun r10 hr10 => ?_)
      subst hr10
      refine lv_aload_n hx hb d_Ru_allows_70 rfl (lv_at hl 0 rfl) ?_
      refine g_get hx hb hts i_Ru hown hK.1 hP fR rfl 1 (by decide) (hts _ k_132) (fun _ h9 => h9) rfl d_Ru_allows_71 ?_
      refine g_ri (g_runSN (As := [.int (nI (uMt r))]) (rest := [.int ((v - v / 8 * 8) - (v - v / 8 * 8) / 4 * 4)]) ⟨hx, hb, hml, hown, hts⟩ (c_MB_argumentsOf l (nI (uMt r))) st_MB_argumentsOf (hK.2.1 _ (List.mem_of_getElem? (i := 2) rfl)) ⟨rfl, rfl, by decide, by decide⟩ (gT_pre _) rfl hl.1 rfl (Nat.le_of_ble_eq_true rfl) d_Ru_allows_74 ⟨by decide, by decide⟩) (fun r11 hr11 => ?_)
      subst hr11
      refine lv_icmp_gt (tgt := 84) hx hb d_Ru_allows_77 (by decide) (fun c12 => ?_) (fun c12 => ?_)
      · skip
        refine lv_iconst (v := 0) hx hb d_Ru_allows_84 (by decide) ?_
        exact W.zret hx hb hr rfl (fun t ht _ => ⟨_, rfl, (by rw [e4, rem84 (by simpa using c9), nI_ltI (by omega) (by omega)] at c12; have e9 : decide (v.toNatClampNeg % 4 ≤ uMt r % 4) = false := (by simp; omega); simp [allw, bI_t, bI_f, e9, *]), ht⟩) (fun _ h => nomatch h) d_Ru_allows_85
      · skip
        refine lv_iconst (v := 1) hx hb d_Ru_allows_80 (by decide) ?_
        refine lv_goto (tgt := 85) hx hb d_Ru_allows_81 (by decide) ?_
        exact W.zret hx hb hr rfl (fun t ht _ => ⟨_, rfl, (by rw [e4, rem84 (by simpa using c9), nI_ltI (by omega) (by omega)] at c12; have e9 : decide (v.toNatClampNeg % 4 ≤ uMt r % 4) = true := (by simp; omega); simp [allw, bI_t, bI_f, e9, *]), ht⟩) (fun _ h => nomatch h) d_Ru_allows_85
  refine lv_tableOut (tgt := 86) hx hb d_Ru_allows_1 (by have q0 := lv_neT c1 (show (0 : Int32).toInt = 0 by decide); have q1 := lv_neT c2 (show (1 : Int32).toInt = 1 by decide); have q2 := lv_neT c5 (show (2 : Int32).toInt = 2 by decide); have q3 := lv_neT c6 (show (3 : Int32).toInt = 3 by decide); have q4 := lv_neT c7 (show (4 : Int32).toInt = 4 by decide); omega) (by decide) ?_
  refine lv_iconst (v := 0) hx hb d_Ru_allows_86 (by decide) ?_
  exact W.zret hx hb hr rfl (fun t ht _ => ⟨_, rfl, (by simp [allw, bI_t, bI_f, *]), ht⟩) (fun _ h => nomatch h) d_Ru_allows_87
set_option maxHeartbeats 4000000 in
set_option maxRecDepth 100000 in
theorem c_Ru_answersTo (l : Launch) {D : va_G} {cI cZ cO cL : ClassId} {b e0 : Nat} {A : gW} {i h hm : Nat} {r : Ru} (hr0 : rRu cI A i h hm r) {i2 : Nat} (hmm : rMa cI A i2 hm (uMs r)) {j h2 : Nat} {t : It} (hi : rIn A j h2 t) (b1 : uMk r < 4) (b2 : uMt r < 8) (b3 : iMk t < 4) (b4 : iMt t < 8) : Met l y_Ru_answersTo (Cond.code y_Ru_answersTo b_Ru_answersTo 2 (some .boolean) :: TT) ({ frames := 3, cells := 0, slots := 0, locals := 66 }) (va_Pc [.ref h, .ref h2] (gI D [(cI, .int), (cZ, .boolean), (cO, .object "java/lang/Object"), (cL, .long)] b e0 A)) (vp_Si (fun z => z = bI (uAns r (iMk t) (iMt t) (iX t)))) 0 0 (fun _ => False) := by
  refine Met.ofG (own := R_Ru) (by decide +kernel) rfl (Nat.le_of_ble_eq_true rfl) ?_
  intro p e s m below meth c ls hx hb hr hlk hml hown hnm hts hI hl
  have hl : lv_has ls 2 [(0, .ref h), (1, .ref h2)] := hl
  obtain ⟨hP, hK⟩ := hI
  obtain ⟨hk, hv, fk, fv, fR, fK, fV, hn4, hac⟩ := id hr0
  obtain ⟨hk2, hv2, fk2, fv2, fM2, fK2, fV2, hn32, hms2⟩ := id hmm
  refine lv_aload_n hx hb d_Ru_answersTo_0 rfl (lv_at hl 0 rfl) ?_
  refine g_get hx hb hts i_Ru hown hK.1 hP fR rfl 7 (by decide) (hts _ k_142) (fun _ h9 => h9) rfl d_Ru_answersTo_1 ?_
  refine lv_if_eq (tgt := 44) hx hb d_Ru_answersTo_4 (by decide) (fun c1 => ?_) (fun c1 => ?_)
  · skip
    rw [bI_0] at c1
    refine lv_iconst (v := 0) hx hb d_Ru_answersTo_44 (by decide) ?_
    exact W.zret hx hb hr rfl (fun t ht _ => ⟨_, rfl, (by simp_all [uAns, bI]), ht⟩) (fun _ h => nomatch h) d_Ru_answersTo_45
  · skip
    rw [bI_0] at c1
    refine lv_aload_n hx hb d_Ru_answersTo_7 rfl (lv_at hl 0 rfl) ?_
    refine g_get hx hb hts i_Ru hown hK.1 hP fR rfl 0 (by decide) (hts _ k_130) (fun _ h9 => h9) rfl d_Ru_answersTo_8 ?_
    refine lv_aload_n hx hb d_Ru_answersTo_11 rfl (lv_at hl 1 rfl) ?_
    refine g_get hx hb hts i_In hown hK.1 hP hi rfl 0 (by decide) (hts _ k_272) (fun _ h9 => h9) rfl d_Ru_answersTo_12 ?_
    refine lv_icmp_ne (tgt := 44) hx hb d_Ru_answersTo_15 (by decide) (fun c2 => ?_) (fun c2 => ?_)
    · skip
      rw [nI_eq (by omega) (by omega)] at c2
      refine lv_iconst (v := 0) hx hb d_Ru_answersTo_44 (by decide) ?_
      exact W.zret hx hb hr rfl (fun t ht _ => ⟨_, rfl, (by simp_all [uAns, bI]), ht⟩) (fun _ h => nomatch h) d_Ru_answersTo_45
    · skip
      rw [nI_eq (by omega) (by omega)] at c2
      refine lv_aload_n hx hb d_Ru_answersTo_18 rfl (lv_at hl 0 rfl) ?_
      refine g_get hx hb hts i_Ru hown hK.1 hP fR rfl 1 (by decide) (hts _ k_132) (fun _ h9 => h9) rfl d_Ru_answersTo_19 ?_
      refine lv_aload_n hx hb d_Ru_answersTo_22 rfl (lv_at hl 1 rfl) ?_
      refine g_get hx hb hts i_In hown hK.1 hP hi rfl 1 (by decide) (hts _ k_275) (fun _ h9 => h9) rfl d_Ru_answersTo_23 ?_
      refine lv_icmp_ne (tgt := 44) hx hb d_Ru_answersTo_26 (by decide) (fun c3 => ?_) (fun c3 => ?_)
      · skip
        rw [nI_eq (by omega) (by omega)] at c3
        refine lv_iconst (v := 0) hx hb d_Ru_answersTo_44 (by decide) ?_
        exact W.zret hx hb hr rfl (fun t ht _ => ⟨_, rfl, (by simp_all [uAns, bI]), ht⟩) (fun _ h => nomatch h) d_Ru_answersTo_45
      · skip
        rw [nI_eq (by omega) (by omega)] at c3
        refine lv_aload_n hx hb d_Ru_answersTo_29 rfl (lv_at hl 0 rfl) ?_
        refine g_get hx hb hts i_Ru hown hK.1 hP fR rfl 2 (by decide) (hts _ k_133) (fun _ h9 => h9) rfl d_Ru_answersTo_30 ?_
        refine lv_aload_n hx hb d_Ru_answersTo_33 rfl (lv_at hl 1 rfl) ?_
        refine g_ri (g_runV (As := [.ref h2]) (rest := []) ⟨hx, hb, hml, hown, hts⟩ (c_Ma_fit l hmm hi) st_Ma_fit k_326 ⟨rfl, rfl, by decide, by decide⟩ rfl (gI.preV hK va_S.rf hP fM2 rfl _) rfl hl.1 rfl (Nat.le_of_ble_eq_true rfl) d_Ru_answersTo_34 ⟨by decide, by decide⟩) (fun r4 hr4 => ?_)
        subst hr4
        refine lv_if_eq (tgt := 44) hx hb d_Ru_answersTo_37 (by decide) (fun c5 => ?_) (fun c5 => ?_)
        · skip
          rw [bI_0] at c5
          refine lv_iconst (v := 0) hx hb d_Ru_answersTo_44 (by decide) ?_
          exact W.zret hx hb hr rfl (fun t ht _ => ⟨_, rfl, (by simp_all [uAns, bI]), ht⟩) (fun _ h => nomatch h) d_Ru_answersTo_45
        · skip
          rw [bI_0] at c5
          refine lv_iconst (v := 1) hx hb d_Ru_answersTo_40 (by decide) ?_
          refine lv_goto (tgt := 45) hx hb d_Ru_answersTo_41 (by decide) ?_
          exact W.zret hx hb hr rfl (fun t ht _ => ⟨_, rfl, (by simp_all [uAns, bI]), ht⟩) (fun _ h => nomatch h) d_Ru_answersTo_45
end
section
/-! More words for the roads of MockBook's reading methods. -/
theorem inN {x : Int32} {n : Nat} (hn : n ≤ 1000) (h : inR x 0 (nI n - 1) = true) : ∃ j : Nat, j < n ∧ x = nI j := by
  simp only [inR, Bool.and_eq_true, Bool.not_eq_true', decide_eq_false_iff_not] at h
  obtain ⟨j, hj, rfl⟩ := nI_of h.1
  refine ⟨j, ?_, rfl⟩
  have h2 := h.2
  cases n with
  | zero => exact absurd (show nI 0 - 1 < nI j by rw [show nI 0 - 1 = -1 by decide, Int32.lt_iff_toInt_lt, nI_toInt (by omega), show (-1 : Int32).toInt = -1 by decide]; omega) h2
  | succ k =>
    rw [nI_pred, nI_ltI (by omega) (by omega)] at h2
    omega
theorem inN_t {j n : Nat} (hn : n ≤ 1000) (h : j < n) : inR (nI j) 0 (nI n - 1) = true := by
  cases n with
  | zero => omega
  | succ k =>
    simp only [inR, nI_pred, Bool.and_eq_true, Bool.not_eq_true', decide_eq_false_iff_not]
    exact ⟨nI_pos (by omega), nI_nlt (by omega) (by omega)⟩
def xUNEX : Int64 := 20000000000
def xDEEP : Int64 := 20000000001
def xFAIL : Int64 := 40000000000
def xNONE : Int64 := 60000000000
/-- noted: what of an interaction -/
def notA (t : It) (wh : Int32) : Int64 := if wh = 0 then (nI (iMk t)).toInt64 else if wh = 1 then (nI (iMt t)).toInt64 else if wh = 2 then (iX t).1.toInt64 else if wh = 3 then (iX t).2.1.toInt64 else if wh = 4 then (iX t).2.2.toInt64 else if wh = 5 then (nI (iDp t)).toInt64 else if wh = 6 then (iFr t).toInt64 else if wh = 7 then (bI (iVe t)).toInt64 else if wh = 8 then (nI (iRu t) - 1).toInt64 else if wh = 9 then (bI (iLv t)).toInt64 else xNONE
def sNoted (σ : Bk) (x wh : Int32) : Int64 := if inR x 0 (nI (kIs σ).length - 1) then notA ((kIs σ).getD x.toNatClampNeg i0) wh else xNONE
def sAnswer (σ : Bk) (x : Int32) : Int64 := if inR x 0 (nI (kIs σ).length - 1) then iAn ((kIs σ).getD x.toNatClampNeg i0) else xNONE
def sAbout (σ : Bk) (x wh : Int32) : Int32 := if inR x 0 (nI (kRs σ).length - 1) then (if wh = 0 then nI (uAc ((kRs σ).getD x.toNatClampNeg u0)).length else if wh = 1 then nI (uUs ((kRs σ).getD x.toNatClampNeg u0)) else if wh = 2 then bI (uLv ((kRs σ).getD x.toNatClampNeg u0)) else -1) else -1
def qOpen (σ : Bk) (mk : Nat) (i : Nat) : Bool := iLv ((kIs σ).getD i i0) && decide (iMk ((kIs σ).getD i i0) = mk) && !iVe ((kIs σ).getD i i0)
def qUnus (σ : Bk) (i : Nat) : Bool := uLv ((kRs σ).getD i u0) && decide (uUs ((kRs σ).getD i u0) = 0)
def qAsk (σ : Bk) (mk mt : Nat) (i : Nat) : Bool := iAsk (kBu σ) mk mt ((kIs σ).getD i i0)
def qCnt (σ : Bk) (z : Int32) (i : Nat) : Bool := iLv ((kIs σ).getD i i0) && (iVe ((kIs σ).getD i i0) || decide (z = 0))
def qRul (σ : Bk) (i : Nat) : Bool := uLv ((kRs σ).getD i u0)
def sOpen (σ : Bk) (m : Int32) : Int32 := if inR m 0 3 then fst' (qOpen σ m.toNatClampNeg) (kIs σ).length 0 else -1
def sUnused (σ : Bk) : Int32 := fst' (qUnus σ) (kRs σ).length 0
def sCount (σ : Bk) (wh : Int32) : Int32 := if wh = 0 then nI (kIs σ).length else if wh = 1 then nI (cnt (qCnt σ 0) (kIs σ).length) else if wh = 2 then nI (cnt (qCnt σ 1) (kIs σ).length) else if wh = 3 then nI (kRs σ).length else if wh = 4 then nI (cnt (qRul σ) (kRs σ).length) else if wh = 5 then nI (kBu σ).length else -1
theorem cnt_le (q : Nat → Bool) (n : Nat) : cnt q n ≤ n := by
  induction n with
  | zero => exact Nat.le_refl _
  | succ k ih => simp only [cnt]; split <;> omega
end
section
theorem c_MB_asB (l : Launch) (x : Bool) : Met l y_MB_asNumber (Cond.code y_MB_asNumber b_MB_asNumber 1 (some .int) :: TT) ({ frames := 0, cells := 0, slots := 0, locals := 0 }) (va_Pc [.int (bI x)] (fun _ => True)) (vp_Si (fun r => r = bI x)) 0 0 (fun _ => False) := by
  have h := c_MB_asNumber l (bI x)
  rw [bI_num] at h
  exact h
set_option maxHeartbeats 4000000 in
set_option maxRecDepth 100000 in
theorem c_MB_isRule (l : Launch) {D : va_G} {cI cZ cO cL : ClassId} {b e0 : Nat} {A : gW} {h : Nat} {σ : Bk} (hB : rBk cI cZ cO e0 A h σ) (hw : wf σ) (x : Int32) : Met l y_MB_isRule (Cond.code y_MB_isRule b_MB_isRule 2 (some .boolean) :: TT) ({ frames := 1, cells := 0, slots := 0, locals := 22 }) (va_Pc [.ref h, .int x] (gI D [(cI, .int), (cZ, .boolean), (cO, .object "java/lang/Object"), (cL, .long)] b e0 A)) (vp_Si (fun z => z = bI (inR x 0 (nI (kRs σ).length - 1)))) 0 0 (fun _ => False) := by
  refine Met.ofG (own := R_MB) (by decide +kernel) rfl (Nat.le_of_ble_eq_true rfl) ?_
  intro p e s m below meth c ls hx hb hr hlk hml hown hnm hts hI hl
  have hl : lv_has ls 2 [(0, .ref h), (1, .int x)] := hl
  obtain ⟨hP, hK⟩ := hI
  obtain ⟨ra, ia, sa, ua, aR, aI, aM, fs, fB, hLR, hLI, fS, hfs, hBu, hRs, hIs⟩ := id hB
  obtain ⟨w1, w2, w3, w4, w5, w6, w7, w8⟩ := id hw
  obtain ⟨moR, qR, capR, efR, fLR, -⟩ := id hLR
  obtain ⟨moI, qI, capI, efI, fLI, -⟩ := id hLI
  obtain ⟨hk, hv, fk, fv, fM, fK, fV, hn3, hms⟩ := id hBu
  refine lv_iload_n hx hb d_MB_isRule_0 rfl (lv_at hl 1 rfl) ?_
  refine lv_iconst (v := 0) hx hb d_MB_isRule_1 (by decide) ?_
  refine lv_aload_n hx hb d_MB_isRule_2 rfl (lv_at hl 0 rfl) ?_
  refine g_get hx hb hts i_MB hown hK.1 hP fB rfl 0 (by decide) (hts _ k_68) (fun _ h9 => h9) rfl d_MB_isRule_3 ?_
  refine g_ri (g_runV (As := []) (rest := [.int 0, .int x]) ⟨hx, hb, hml, hown, hts⟩ (c_AL_size l hLR) st_AL_size k_120 ⟨rfl, rfl, by decide, by decide⟩ rfl (gI.preV hK va_S.rf hP fLR rfl _) rfl hl.1 rfl (Nat.le_of_ble_eq_true rfl) d_MB_isRule_6 ⟨by decide, by decide⟩) (fun r1 hr1 => ?_)
  subst hr1
  refine lv_iconst (v := 1) hx hb d_MB_isRule_9 (by decide) ?_
  refine lv_isub hx hb d_MB_isRule_10 ?_
  refine g_ri (g_runS (As := [.int x, .int 0, .int ((nI (kRs σ).length) - 1)]) (rest := []) ⟨hx, hb, hml, hown, hts⟩ (c_MB_isWithin l x 0 ((nI (kRs σ).length) - 1)) st_MB_isWithin k_88 ⟨rfl, rfl, by decide, by decide⟩ (gT_pre _) rfl hl.1 rfl (Nat.le_of_ble_eq_true rfl) d_MB_isRule_11 ⟨by decide, by decide⟩) (fun r2 hr2 => ?_)
  subst hr2
  exact W.zret hx hb hr (bI_nar _) (fun t ht _ => ⟨_, rfl, rfl, ht⟩) (fun _ h => nomatch h) d_MB_isRule_14
set_option maxHeartbeats 4000000 in
set_option maxRecDepth 100000 in
theorem c_MB_isInteraction (l : Launch) {D : va_G} {cI cZ cO cL : ClassId} {b e0 : Nat} {A : gW} {h : Nat} {σ : Bk} (hB : rBk cI cZ cO e0 A h σ) (hw : wf σ) (x : Int32) : Met l y_MB_isInteraction (Cond.code y_MB_isInteraction b_MB_isInteraction 2 (some .boolean) :: TT) ({ frames := 1, cells := 0, slots := 0, locals := 22 }) (va_Pc [.ref h, .int x] (gI D [(cI, .int), (cZ, .boolean), (cO, .object "java/lang/Object"), (cL, .long)] b e0 A)) (vp_Si (fun z => z = bI (inR x 0 (nI (kIs σ).length - 1)))) 0 0 (fun _ => False) := by
  refine Met.ofG (own := R_MB) (by decide +kernel) rfl (Nat.le_of_ble_eq_true rfl) ?_
  intro p e s m below meth c ls hx hb hr hlk hml hown hnm hts hI hl
  have hl : lv_has ls 2 [(0, .ref h), (1, .int x)] := hl
  obtain ⟨hP, hK⟩ := hI
  obtain ⟨ra, ia, sa, ua, aR, aI, aM, fs, fB, hLR, hLI, fS, hfs, hBu, hRs, hIs⟩ := id hB
  obtain ⟨w1, w2, w3, w4, w5, w6, w7, w8⟩ := id hw
  obtain ⟨moR, qR, capR, efR, fLR, -⟩ := id hLR
  obtain ⟨moI, qI, capI, efI, fLI, -⟩ := id hLI
  obtain ⟨hk, hv, fk, fv, fM, fK, fV, hn3, hms⟩ := id hBu
  refine lv_iload_n hx hb d_MB_isInteraction_0 rfl (lv_at hl 1 rfl) ?_
  refine lv_iconst (v := 0) hx hb d_MB_isInteraction_1 (by decide) ?_
  refine lv_aload_n hx hb d_MB_isInteraction_2 rfl (lv_at hl 0 rfl) ?_
  refine g_get hx hb hts i_MB hown hK.1 hP fB rfl 1 (by decide) (hts _ k_69) (fun _ h9 => h9) rfl d_MB_isInteraction_3 ?_
  refine g_ri (g_runV (As := []) (rest := [.int 0, .int x]) ⟨hx, hb, hml, hown, hts⟩ (c_AL_size l hLI) st_AL_size k_120 ⟨rfl, rfl, by decide, by decide⟩ rfl (gI.preV hK va_S.rf hP fLI rfl _) rfl hl.1 rfl (Nat.le_of_ble_eq_true rfl) d_MB_isInteraction_6 ⟨by decide, by decide⟩) (fun r1 hr1 => ?_)
  subst hr1
  refine lv_iconst (v := 1) hx hb d_MB_isInteraction_9 (by decide) ?_
  refine lv_isub hx hb d_MB_isInteraction_10 ?_
  refine g_ri (g_runS (As := [.int x, .int 0, .int ((nI (kIs σ).length) - 1)]) (rest := []) ⟨hx, hb, hml, hown, hts⟩ (c_MB_isWithin l x 0 ((nI (kIs σ).length) - 1)) st_MB_isWithin k_88 ⟨rfl, rfl, by decide, by decide⟩ (gT_pre _) rfl hl.1 rfl (Nat.le_of_ble_eq_true rfl) d_MB_isInteraction_11 ⟨by decide, by decide⟩) (fun r2 hr2 => ?_)
  subst hr2
  exact W.zret hx hb hr (bI_nar _) (fun t ht _ => ⟨_, rfl, rfl, ht⟩) (fun _ h => nomatch h) d_MB_isInteraction_14
set_option maxHeartbeats 4000000 in
set_option maxRecDepth 100000 in
theorem c_MB_noted (l : Launch) {D : va_G} {cI cZ cO cL : ClassId} {b e0 : Nat} {A : gW} {h : Nat} {σ : Bk} (hB : rBk cI cZ cO e0 A h σ) (hw : wf σ) (x wh : Int32) : Met l y_MB_noted (Cond.code y_MB_noted b_MB_noted 4 (some .long) :: TT) ({ frames := 3, cells := 0, slots := 0, locals := 64 }) (va_Pc [.ref h, .int x, .int wh] (gI D [(cI, .int), (cZ, .boolean), (cO, .object "java/lang/Object"), (cL, .long)] b e0 A)) (vp_Sl (fun z => z = sNoted σ x wh)) 0 0 (fun _ => False) := by
  refine Met.ofG (own := R_MB) (by decide +kernel) rfl (Nat.le_of_ble_eq_true rfl) ?_
  intro p e s m below meth c ls hx hb hr hlk hml hown hnm hts hI hl
  have hl : lv_has ls 4 [(0, .ref h), (1, .int x), (2, .int wh)] := hl
  obtain ⟨hP, hK⟩ := hI
  obtain ⟨ra, ia, sa, ua, aR, aI, aM, fs, fB, hLR, hLI, fS, hfs, hBu, hRs, hIs⟩ := id hB
  obtain ⟨w1, w2, w3, w4, w5, w6, w7, w8⟩ := id hw
  obtain ⟨moR, qR, capR, efR, fLR, -⟩ := id hLR
  obtain ⟨moI, qI, capI, efI, fLI, -⟩ := id hLI
  obtain ⟨hk, hv, fk, fv, fM, fK, fV, hn3, hms⟩ := id hBu
  refine lv_aload_n hx hb d_MB_noted_0 rfl (lv_at hl 0 rfl) ?_
  refine lv_iload_n hx hb d_MB_noted_1 rfl (lv_at hl 1 rfl) ?_
  refine g_ri (g_runV (As := [.int x]) (rest := []) ⟨hx, hb, hml, hown, hts⟩ (c_MB_isInteraction l hB hw x) st_MB_isInteraction k_413 ⟨rfl, rfl, by decide, by decide⟩ rfl (gI.preV hK va_S.rf hP fB rfl _) rfl hl.1 rfl (Nat.le_of_ble_eq_true rfl) d_MB_noted_2 ⟨by decide, by decide⟩) (fun r1 hr1 => ?_)
  subst hr1
  refine lv_if_ne (tgt := 12) hx hb d_MB_noted_5 (by decide) (fun c2 => ?_) (fun c2 => ?_)
  · skip
    rw [bI_0] at c2
    obtain ⟨j, hj, rfl⟩ := inN (by omega) (by simpa using c2 : inR x 0 (nI (kIs σ).length - 1) = true)
    refine lv_aload_n hx hb d_MB_noted_12 rfl (lv_at hl 0 rfl) ?_
    refine g_get hx hb hts i_MB hown hK.1 hP fB rfl 1 (by decide) (hts _ k_69) (fun _ h9 => h9) rfl d_MB_noted_13 ?_
    refine lv_iload_n hx hb d_MB_noted_16 rfl (lv_at hl 1 rfl) ?_
    refine g_rr (g_runV (As := [.int (nI j)]) (rest := []) ⟨hx, hb, hml, hown, hts⟩ (c_AL_get l hLI (i := j) (by omega)) st_AL_get k_222 ⟨rfl, rfl, by decide, by decide⟩ rfl (gI.preV hK va_S.rf hP fLI rfl _) rfl hl.1 rfl (Nat.le_of_ble_eq_true rfl) d_MB_noted_17 ⟨by decide, by decide⟩) ?_
    obtain ⟨t3, ht3⟩ : ∃ z, z = (kIs σ).getD j i0 := ⟨_, rfl⟩
    have ft3 : rIn A j (aI j) t3 := by rw [ht3]; exact hIs j (by omega)
    have bt3 : wfI t3 := by rw [ht3]; exact (w4 j (by omega)).1
    obtain ⟨bt31, bt32⟩ := bt3
    refine va_castY (C := R_In) hx hb hown (hts _ k_263) (hK.2.1 _ (List.mem_of_getElem? (i := 6) rfl)) (va_recv (q0 := 0) hK.1 (hP.one ft3) rfl rfl) d_MB_noted_20 ?_
    refine lv_astore_n (lv' := [(3, .ref ((aI j))), (0, .ref h), (1, .int (nI j)), (2, .int wh)]) hx hb d_MB_noted_23 rfl hl (by decide) rfl (fun ls hl => ?_)
    refine lv_iload_n hx hb d_MB_noted_24 rfl (lv_at hl 3 rfl) ?_
    by_cases c4 : wh = 0
    · refine lv_tableIn (off := 55) (tgt := 80) hx hb d_MB_noted_25 (by rw [c4]; decide) (by rw [c4]; decide) (by rw [c4]; rfl) (by decide) ?_
      refine lv_aload_n hx hb d_MB_noted_80 rfl (lv_at hl 0 rfl) ?_
      refine g_get hx hb hts i_In hown hK.1 hP ft3 rfl 0 (by decide) (hts _ k_273) (fun _ h9 => h9) rfl d_MB_noted_81 ?_
      refine lv_i2l (v := (nI (iMk t3)).toInt64) hx hb d_MB_noted_84 rfl ?_
      exact W.lret hx hb hr (fun t ht _ => ⟨_, rfl, (by have e := nI_clamp (show j < 2 ^ 31 by omega); simp_all [sNoted, notA, xNONE, bI_num]), ht⟩) (fun _ h => nomatch h) d_MB_noted_85
    by_cases c5 : wh = 1
    · refine lv_tableIn (off := 61) (tgt := 86) hx hb d_MB_noted_25 (by rw [c5]; decide) (by rw [c5]; decide) (by rw [c5]; rfl) (by decide) ?_
      refine lv_aload_n hx hb d_MB_noted_86 rfl (lv_at hl 0 rfl) ?_
      refine g_get hx hb hts i_In hown hK.1 hP ft3 rfl 1 (by decide) (hts _ k_276) (fun _ h9 => h9) rfl d_MB_noted_87 ?_
      refine lv_i2l (v := (nI (iMt t3)).toInt64) hx hb d_MB_noted_90 rfl ?_
      exact W.lret hx hb hr (fun t ht _ => ⟨_, rfl, (by have e := nI_clamp (show j < 2 ^ 31 by omega); simp_all [sNoted, notA, xNONE, bI_num]), ht⟩) (fun _ h => nomatch h) d_MB_noted_91
    by_cases c6 : wh = 2
    · refine lv_tableIn (off := 67) (tgt := 92) hx hb d_MB_noted_25 (by rw [c6]; decide) (by rw [c6]; decide) (by rw [c6]; rfl) (by decide) ?_
      refine lv_aload_n hx hb d_MB_noted_92 rfl (lv_at hl 0 rfl) ?_
      refine g_get hx hb hts i_In hown hK.1 hP ft3 rfl 2 (by decide) (hts _ k_278) (fun _ h9 => h9) rfl d_MB_noted_93 ?_
      refine lv_i2l (v := ((iX t3).1).toInt64) hx hb d_MB_noted_96 rfl ?_
      exact W.lret hx hb hr (fun t ht _ => ⟨_, rfl, (by have e := nI_clamp (show j < 2 ^ 31 by omega); simp_all [sNoted, notA, xNONE, bI_num]), ht⟩) (fun _ h => nomatch h) d_MB_noted_97
    by_cases c7 : wh = 3
    · refine lv_tableIn (off := 73) (tgt := 98) hx hb d_MB_noted_25 (by rw [c7]; decide) (by rw [c7]; decide) (by rw [c7]; rfl) (by decide) ?_
      refine lv_aload_n hx hb d_MB_noted_98 rfl (lv_at hl 0 rfl) ?_
      refine g_get hx hb hts i_In hown hK.1 hP ft3 rfl 3 (by decide) (hts _ k_280) (fun _ h9 => h9) rfl d_MB_noted_99 ?_
      refine lv_i2l (v := ((iX t3).2.1).toInt64) hx hb d_MB_noted_102 rfl ?_
      exact W.lret hx hb hr (fun t ht _ => ⟨_, rfl, (by have e := nI_clamp (show j < 2 ^ 31 by omega); simp_all [sNoted, notA, xNONE, bI_num]), ht⟩) (fun _ h => nomatch h) d_MB_noted_103
    by_cases c8 : wh = 4
    · refine lv_tableIn (off := 79) (tgt := 104) hx hb d_MB_noted_25 (by rw [c8]; decide) (by rw [c8]; decide) (by rw [c8]; rfl) (by decide) ?_
      refine lv_aload_n hx hb d_MB_noted_104 rfl (lv_at hl 0 rfl) ?_
      refine g_get hx hb hts i_In hown hK.1 hP ft3 rfl 4 (by decide) (hts _ k_282) (fun _ h9 => h9) rfl d_MB_noted_105 ?_
      refine lv_i2l (v := ((iX t3).2.2).toInt64) hx hb d_MB_noted_108 rfl ?_
      exact W.lret hx hb hr (fun t ht _ => ⟨_, rfl, (by have e := nI_clamp (show j < 2 ^ 31 by omega); simp_all [sNoted, notA, xNONE, bI_num]), ht⟩) (fun _ h => nomatch h) d_MB_noted_109
    by_cases c9 : wh = 5
    · refine lv_tableIn (off := 85) (tgt := 110) hx hb d_MB_noted_25 (by rw [c9]; decide) (by rw [c9]; decide) (by rw [c9]; rfl) (by decide) ?_
      refine lv_aload_n hx hb d_MB_noted_110 rfl (lv_at hl 0 rfl) ?_
      refine g_get hx hb hts i_In hown hK.1 hP ft3 rfl 5 (by decide) (hts _ k_284) (fun _ h9 => h9) rfl d_MB_noted_111 ?_
      refine lv_i2l (v := (nI (iDp t3)).toInt64) hx hb d_MB_noted_114 rfl ?_
      exact W.lret hx hb hr (fun t ht _ => ⟨_, rfl, (by have e := nI_clamp (show j < 2 ^ 31 by omega); simp_all [sNoted, notA, xNONE, bI_num]), ht⟩) (fun _ h => nomatch h) d_MB_noted_115
    by_cases c10 : wh = 6
    · refine lv_tableIn (off := 91) (tgt := 116) hx hb d_MB_noted_25 (by rw [c10]; decide) (by rw [c10]; decide) (by rw [c10]; rfl) (by decide) ?_
      refine lv_aload_n hx hb d_MB_noted_116 rfl (lv_at hl 0 rfl) ?_
      refine g_get hx hb hts i_In hown hK.1 hP ft3 rfl 6 (by decide) (hts _ k_286) (fun _ h9 => h9) rfl d_MB_noted_117 ?_
      refine lv_i2l (v := (iFr t3).toInt64) hx hb d_MB_noted_120 rfl ?_
      exact W.lret hx hb hr (fun t ht _ => ⟨_, rfl, (by have e := nI_clamp (show j < 2 ^ 31 by omega); simp_all [sNoted, notA, xNONE, bI_num]), ht⟩) (fun _ h => nomatch h) d_MB_noted_121
    by_cases c11 : wh = 7
    · refine lv_tableIn (off := 97) (tgt := 122) hx hb d_MB_noted_25 (by rw [c11]; decide) (by rw [c11]; decide) (by rw [c11]; rfl) (by decide) ?_
      refine lv_aload_n hx hb d_MB_noted_122 rfl (lv_at hl 0 rfl) ?_
      refine g_get hx hb hts i_In hown hK.1 hP ft3 rfl 9 (by decide) (hts _ k_292) (fun _ h9 => h9) rfl d_MB_noted_123 ?_
      refine g_ri (g_runS (As := [.int (bI (iVe t3))]) (rest := []) ⟨hx, hb, hml, hown, hts⟩ (c_MB_asB l (iVe t3)) st_MB_asNumber k_250 ⟨rfl, rfl, by decide, by decide⟩ (gT_pre _) rfl hl.1 rfl (Nat.le_of_ble_eq_true rfl) d_MB_noted_126 ⟨by decide, by decide⟩) (fun r12 hr12 => ?_)
      subst hr12
      refine lv_i2l (v := (bI (iVe t3)).toInt64) hx hb d_MB_noted_129 rfl ?_
      exact W.lret hx hb hr (fun t ht _ => ⟨_, rfl, (by have e := nI_clamp (show j < 2 ^ 31 by omega); simp_all [sNoted, notA, xNONE, bI_num]), ht⟩) (fun _ h => nomatch h) d_MB_noted_130
    by_cases c13 : wh = 8
    · refine lv_tableIn (off := 106) (tgt := 131) hx hb d_MB_noted_25 (by rw [c13]; decide) (by rw [c13]; decide) (by rw [c13]; rfl) (by decide) ?_
      refine lv_aload_n hx hb d_MB_noted_131 rfl (lv_at hl 0 rfl) ?_
      refine g_get hx hb hts i_In hown hK.1 hP ft3 rfl 7 (by decide) (hts _ k_288) (fun _ h9 => h9) rfl d_MB_noted_132 ?_
      refine lv_i2l (v := (nI (iRu t3) - 1).toInt64) hx hb d_MB_noted_135 rfl ?_
      exact W.lret hx hb hr (fun t ht _ => ⟨_, rfl, (by have e := nI_clamp (show j < 2 ^ 31 by omega); simp_all [sNoted, notA, xNONE, bI_num]), ht⟩) (fun _ h => nomatch h) d_MB_noted_136
    by_cases c14 : wh = 9
    · refine lv_tableIn (off := 112) (tgt := 137) hx hb d_MB_noted_25 (by rw [c14]; decide) (by rw [c14]; decide) (by rw [c14]; rfl) (by decide) ?_
      refine lv_aload_n hx hb d_MB_noted_137 rfl (lv_at hl 0 rfl) ?_
      refine g_get hx hb hts i_In hown hK.1 hP ft3 rfl 10 (by decide) (hts _ k_294) (fun _ h9 => h9) rfl d_MB_noted_138 ?_
      refine g_ri (g_runS (As := [.int (bI (iLv t3))]) (rest := []) ⟨hx, hb, hml, hown, hts⟩ (c_MB_asB l (iLv t3)) st_MB_asNumber k_250 ⟨rfl, rfl, by decide, by decide⟩ (gT_pre _) rfl hl.1 rfl (Nat.le_of_ble_eq_true rfl) d_MB_noted_141 ⟨by decide, by decide⟩) (fun r15 hr15 => ?_)
      subst hr15
      refine lv_i2l (v := (bI (iLv t3)).toInt64) hx hb d_MB_noted_144 rfl ?_
      exact W.lret hx hb hr (fun t ht _ => ⟨_, rfl, (by have e := nI_clamp (show j < 2 ^ 31 by omega); simp_all [sNoted, notA, xNONE, bI_num]), ht⟩) (fun _ h => nomatch h) d_MB_noted_145
    refine lv_tableOut (tgt := 146) hx hb d_MB_noted_25 (by have q0 := lv_neT c4 (show (0 : Int32).toInt = 0 by decide); have q1 := lv_neT c5 (show (1 : Int32).toInt = 1 by decide); have q2 := lv_neT c6 (show (2 : Int32).toInt = 2 by decide); have q3 := lv_neT c7 (show (3 : Int32).toInt = 3 by decide); have q4 := lv_neT c8 (show (4 : Int32).toInt = 4 by decide); have q5 := lv_neT c9 (show (5 : Int32).toInt = 5 by decide); have q6 := lv_neT c10 (show (6 : Int32).toInt = 6 by decide); have q7 := lv_neT c11 (show (7 : Int32).toInt = 7 by decide); have q8 := lv_neT c13 (show (8 : Int32).toInt = 8 by decide); have q9 := lv_neT c14 (show (9 : Int32).toInt = 9 by decide); omega) (by decide) ?_
    refine lv_ldc2 (v := 60000000000) hx hb hown (hts _ k_257) d_MB_noted_146 ?_
    exact W.lret hx hb hr (fun t ht _ => ⟨_, rfl, (by have e := nI_clamp (show j < 2 ^ 31 by omega); simp_all [sNoted, notA, xNONE, bI_num]), ht⟩) (fun _ h => nomatch h) d_MB_noted_149
  · skip
    rw [bI_0] at c2
    refine lv_ldc2 (v := 60000000000) hx hb hown (hts _ k_257) d_MB_noted_8 ?_
    exact W.lret hx hb hr (fun t ht _ => ⟨_, rfl, (by simp_all [sNoted, notA, xNONE]), ht⟩) (fun _ h => nomatch h) d_MB_noted_11
set_option maxHeartbeats 4000000 in
set_option maxRecDepth 100000 in
theorem c_MB_answer (l : Launch) {D : va_G} {cI cZ cO cL : ClassId} {b e0 : Nat} {A : gW} {h : Nat} {σ : Bk} (hB : rBk cI cZ cO e0 A h σ) (hw : wf σ) (x : Int32) : Met l y_MB_answer (Cond.code y_MB_answer b_MB_answer 2 (some .long) :: TT) ({ frames := 3, cells := 0, slots := 0, locals := 64 }) (va_Pc [.ref h, .int x] (gI D [(cI, .int), (cZ, .boolean), (cO, .object "java/lang/Object"), (cL, .long)] b e0 A)) (vp_Sl (fun z => z = sAnswer σ x)) 0 0 (fun _ => False) := by
  refine Met.ofG (own := R_MB) (by decide +kernel) rfl (Nat.le_of_ble_eq_true rfl) ?_
  intro p e s m below meth c ls hx hb hr hlk hml hown hnm hts hI hl
  have hl : lv_has ls 2 [(0, .ref h), (1, .int x)] := hl
  obtain ⟨hP, hK⟩ := hI
  obtain ⟨ra, ia, sa, ua, aR, aI, aM, fs, fB, hLR, hLI, fS, hfs, hBu, hRs, hIs⟩ := id hB
  obtain ⟨w1, w2, w3, w4, w5, w6, w7, w8⟩ := id hw
  obtain ⟨moR, qR, capR, efR, fLR, -⟩ := id hLR
  obtain ⟨moI, qI, capI, efI, fLI, -⟩ := id hLI
  obtain ⟨hk, hv, fk, fv, fM, fK, fV, hn3, hms⟩ := id hBu
  refine lv_aload_n hx hb d_MB_answer_0 rfl (lv_at hl 0 rfl) ?_
  refine lv_iload_n hx hb d_MB_answer_1 rfl (lv_at hl 1 rfl) ?_
  refine g_ri (g_runV (As := [.int x]) (rest := []) ⟨hx, hb, hml, hown, hts⟩ (c_MB_isInteraction l hB hw x) st_MB_isInteraction k_413 ⟨rfl, rfl, by decide, by decide⟩ rfl (gI.preV hK va_S.rf hP fB rfl _) rfl hl.1 rfl (Nat.le_of_ble_eq_true rfl) d_MB_answer_2 ⟨by decide, by decide⟩) (fun r1 hr1 => ?_)
  subst hr1
  refine lv_if_eq (tgt := 25) hx hb d_MB_answer_5 (by decide) (fun c2 => ?_) (fun c2 => ?_)
  · skip
    rw [bI_0] at c2
    refine lv_ldc2 (v := 60000000000) hx hb hown (hts _ k_257) d_MB_answer_25 ?_
    exact W.lret hx hb hr (fun t ht _ => ⟨_, rfl, (by first | (simp_all [sAnswer, xNONE]; done) | (have e := nI_clamp (show j < 2 ^ 31 by omega); simp_all [sAnswer, xNONE])), ht⟩) (fun _ h => nomatch h) d_MB_answer_28
  · skip
    rw [bI_0] at c2
    obtain ⟨j, hj, rfl⟩ := inN (by omega) (by simpa using c2 : inR x 0 (nI (kIs σ).length - 1) = true)
    refine lv_aload_n hx hb d_MB_answer_8 rfl (lv_at hl 0 rfl) ?_
    refine g_get hx hb hts i_MB hown hK.1 hP fB rfl 1 (by decide) (hts _ k_69) (fun _ h9 => h9) rfl d_MB_answer_9 ?_
    refine lv_iload_n hx hb d_MB_answer_12 rfl (lv_at hl 1 rfl) ?_
    refine g_rr (g_runV (As := [.int (nI j)]) (rest := []) ⟨hx, hb, hml, hown, hts⟩ (c_AL_get l hLI (i := j) (by omega)) st_AL_get k_222 ⟨rfl, rfl, by decide, by decide⟩ rfl (gI.preV hK va_S.rf hP fLI rfl _) rfl hl.1 rfl (Nat.le_of_ble_eq_true rfl) d_MB_answer_13 ⟨by decide, by decide⟩) ?_
    obtain ⟨t3, ht3⟩ : ∃ z, z = (kIs σ).getD j i0 := ⟨_, rfl⟩
    have ft3 : rIn A j (aI j) t3 := by rw [ht3]; exact hIs j (by omega)
    have bt3 : wfI t3 := by rw [ht3]; exact (w4 j (by omega)).1
    obtain ⟨bt31, bt32⟩ := bt3
    refine va_castY (C := R_In) hx hb hown (hts _ k_263) (hK.2.1 _ (List.mem_of_getElem? (i := 6) rfl)) (va_recv (q0 := 0) hK.1 (hP.one ft3) rfl rfl) d_MB_answer_16 ?_
    refine g_get hx hb hts i_In hown hK.1 hP ft3 rfl 8 (by decide) (hts _ k_290) (fun _ h9 => h9) rfl d_MB_answer_19 ?_
    refine lv_goto (tgt := 28) hx hb d_MB_answer_22 (by decide) ?_
    exact W.lret hx hb hr (fun t ht _ => ⟨_, rfl, (by first | (simp_all [sAnswer, xNONE]; done) | (have e := nI_clamp (show j < 2 ^ 31 by omega); simp_all [sAnswer, xNONE])), ht⟩) (fun _ h => nomatch h) d_MB_answer_28
set_option maxHeartbeats 4000000 in
set_option maxRecDepth 100000 in
theorem c_MB_about (l : Launch) {D : va_G} {cI cZ cO cL : ClassId} {b e0 : Nat} {A : gW} {h : Nat} {σ : Bk} (hB : rBk cI cZ cO e0 A h σ) (hw : wf σ) (x wh : Int32) : Met l y_MB_about (Cond.code y_MB_about b_MB_about 4 (some .int) :: TT) ({ frames := 3, cells := 0, slots := 0, locals := 64 }) (va_Pc [.ref h, .int x, .int wh] (gI D [(cI, .int), (cZ, .boolean), (cO, .object "java/lang/Object"), (cL, .long)] b e0 A)) (vp_Si (fun z => z = sAbout σ x wh)) 0 0 (fun _ => False) := by
  refine Met.ofG (own := R_MB) (by decide +kernel) rfl (Nat.le_of_ble_eq_true rfl) ?_
  intro p e s m below meth c ls hx hb hr hlk hml hown hnm hts hI hl
  have hl : lv_has ls 4 [(0, .ref h), (1, .int x), (2, .int wh)] := hl
  obtain ⟨hP, hK⟩ := hI
  obtain ⟨ra, ia, sa, ua, aR, aI, aM, fs, fB, hLR, hLI, fS, hfs, hBu, hRs, hIs⟩ := id hB
  obtain ⟨w1, w2, w3, w4, w5, w6, w7, w8⟩ := id hw
  obtain ⟨moR, qR, capR, efR, fLR, -⟩ := id hLR
  obtain ⟨moI, qI, capI, efI, fLI, -⟩ := id hLI
  obtain ⟨hk, hv, fk, fv, fM, fK, fV, hn3, hms⟩ := id hBu
  refine lv_aload_n hx hb d_MB_about_0 rfl (lv_at hl 0 rfl) ?_
  refine lv_iload_n hx hb d_MB_about_1 rfl (lv_at hl 1 rfl) ?_
  refine g_ri (g_runV (As := [.int x]) (rest := []) ⟨hx, hb, hml, hown, hts⟩ (c_MB_isRule l hB hw x) st_MB_isRule k_218 ⟨rfl, rfl, by decide, by decide⟩ rfl (gI.preV hK va_S.rf hP fB rfl _) rfl hl.1 rfl (Nat.le_of_ble_eq_true rfl) d_MB_about_2 ⟨by decide, by decide⟩) (fun r1 hr1 => ?_)
  subst hr1
  refine lv_if_ne (tgt := 10) hx hb d_MB_about_5 (by decide) (fun c2 => ?_) (fun c2 => ?_)
  · skip
    rw [bI_0] at c2
    obtain ⟨j, hj, rfl⟩ := inN (by omega) (by simpa using c2 : inR x 0 (nI (kRs σ).length - 1) = true)
    refine lv_aload_n hx hb d_MB_about_10 rfl (lv_at hl 0 rfl) ?_
    refine g_get hx hb hts i_MB hown hK.1 hP fB rfl 0 (by decide) (hts _ k_68) (fun _ h9 => h9) rfl d_MB_about_11 ?_
    refine lv_iload_n hx hb d_MB_about_14 rfl (lv_at hl 1 rfl) ?_
    refine g_rr (g_runV (As := [.int (nI j)]) (rest := []) ⟨hx, hb, hml, hown, hts⟩ (c_AL_get l hLR (i := j) (by omega)) st_AL_get k_222 ⟨rfl, rfl, by decide, by decide⟩ rfl (gI.preV hK va_S.rf hP fLR rfl _) rfl hl.1 rfl (Nat.le_of_ble_eq_true rfl) d_MB_about_15 ⟨by decide, by decide⟩) ?_
    obtain ⟨r3, hr3⟩ : ∃ z, z = (kRs σ).getD j u0 := ⟨_, rfl⟩
    have fr3 : rRu cI A j (aR j) (aM j) r3 := by rw [hr3]; exact (hRs j (by omega)).2
    have mr3 : rMa cI A j (aM j) (uMs r3) := by rw [hr3]; exact (hRs j (by omega)).1
    have br3 : wfR r3 := by rw [hr3]; exact w3 j (by omega)
    obtain ⟨br31, br32, br33, br34, br35, br36, br37⟩ := br3
    obtain ⟨hk3, hv3, fk3, fv3, fR3, fK3, fV3, hn3, hac3⟩ := id fr3
    refine va_castY (C := R_Ru) hx hb hown (hts _ k_124) (hK.2.1 _ (List.mem_of_getElem? (i := 5) rfl)) (va_recv (q0 := 0) hK.1 (hP.one fR3) rfl rfl) d_MB_about_18 ?_
    refine lv_astore_n (lv' := [(3, .ref ((aR j))), (0, .ref h), (1, .int (nI j)), (2, .int wh)]) hx hb d_MB_about_21 rfl hl (by decide) rfl (fun ls hl => ?_)
    refine lv_iload_n hx hb d_MB_about_22 rfl (lv_at hl 3 rfl) ?_
    by_cases c4 : wh = 0
    · refine lv_tableIn (off := 25) (tgt := 48) hx hb d_MB_about_23 (by rw [c4]; decide) (by rw [c4]; decide) (by rw [c4]; rfl) (by decide) ?_
      refine lv_aload_n hx hb d_MB_about_48 rfl (lv_at hl 0 rfl) ?_
      refine g_get hx hb hts i_Ru hown hK.1 hP fR3 rfl 5 (by decide) (hts _ k_139) (fun _ h9 => h9) rfl d_MB_about_49 ?_
      exact W.iret hx hb hr (fun t ht _ => ⟨_, rfl, (by first | (simp_all [sAbout]; done) | (have e := nI_clamp (show j < 2 ^ 31 by omega); simp_all [sAbout, bI_num])), ht⟩) (fun _ h => nomatch h) d_MB_about_52
    by_cases c5 : wh = 1
    · refine lv_tableIn (off := 30) (tgt := 53) hx hb d_MB_about_23 (by rw [c5]; decide) (by rw [c5]; decide) (by rw [c5]; rfl) (by decide) ?_
      refine lv_aload_n hx hb d_MB_about_53 rfl (lv_at hl 0 rfl) ?_
      refine g_get hx hb hts i_Ru hown hK.1 hP fR3 rfl 6 (by decide) (hts _ k_141) (fun _ h9 => h9) rfl d_MB_about_54 ?_
      exact W.iret hx hb hr (fun t ht _ => ⟨_, rfl, (by first | (simp_all [sAbout]; done) | (have e := nI_clamp (show j < 2 ^ 31 by omega); simp_all [sAbout, bI_num])), ht⟩) (fun _ h => nomatch h) d_MB_about_57
    by_cases c6 : wh = 2
    · refine lv_tableIn (off := 35) (tgt := 58) hx hb d_MB_about_23 (by rw [c6]; decide) (by rw [c6]; decide) (by rw [c6]; rfl) (by decide) ?_
      refine lv_aload_n hx hb d_MB_about_58 rfl (lv_at hl 0 rfl) ?_
      refine g_get hx hb hts i_Ru hown hK.1 hP fR3 rfl 7 (by decide) (hts _ k_143) (fun _ h9 => h9) rfl d_MB_about_59 ?_
      refine g_ri (g_runS (As := [.int (bI (uLv r3))]) (rest := []) ⟨hx, hb, hml, hown, hts⟩ (c_MB_asB l (uLv r3)) st_MB_asNumber k_250 ⟨rfl, rfl, by decide, by decide⟩ (gT_pre _) rfl hl.1 rfl (Nat.le_of_ble_eq_true rfl) d_MB_about_62 ⟨by decide, by decide⟩) (fun r7 hr7 => ?_)
      subst hr7
      exact W.iret hx hb hr (fun t ht _ => ⟨_, rfl, (by first | (simp_all [sAbout]; done) | (have e := nI_clamp (show j < 2 ^ 31 by omega); simp_all [sAbout, bI_num])), ht⟩) (fun _ h => nomatch h) d_MB_about_65
    refine lv_tableOut (tgt := 66) hx hb d_MB_about_23 (by have q0 := lv_neT c4 (show (0 : Int32).toInt = 0 by decide); have q1 := lv_neT c5 (show (1 : Int32).toInt = 1 by decide); have q2 := lv_neT c6 (show (2 : Int32).toInt = 2 by decide); omega) (by decide) ?_
    refine lv_iconst (v := (-1)) hx hb d_MB_about_66 (by decide) ?_
    exact W.iret hx hb hr (fun t ht _ => ⟨_, rfl, (by first | (simp_all [sAbout]; done) | (have e := nI_clamp (show j < 2 ^ 31 by omega); simp_all [sAbout, bI_num])), ht⟩) (fun _ h => nomatch h) d_MB_about_67
  · skip
    rw [bI_0] at c2
    refine lv_iconst (v := (-1)) hx hb d_MB_about_8 (by decide) ?_
    exact W.iret hx hb hr (fun t ht _ => ⟨_, rfl, (by first | (simp_all [sAbout]; done) | (have e := nI_clamp (show j < 2 ^ 31 by omega); simp_all [sAbout, bI_num])), ht⟩) (fun _ h => nomatch h) d_MB_about_9
set_option maxHeartbeats 4000000 in
set_option maxRecDepth 100000 in
theorem c_MB_isSought (l : Launch) {D : va_G} {cI cZ cO cL : ClassId} {b e0 : Nat} {A : gW} {h : Nat} {σ : Bk} (hB : rBk cI cZ cO e0 A h σ) (hw : wf σ) {j h2 : Nat} {t : It} (hi : rIn A j h2 t) (b3 : iMk t < 4) (b4 : iMt t < 8) {mk mt : Nat} (b1 : mk < 4) (b2 : mt < 8) : Met l y_MB_isSought (Cond.code y_MB_isSought b_MB_isSought 4 (some .boolean) :: TT) ({ frames := 3, cells := 0, slots := 0, locals := 66 }) (va_Pc [.ref h, .ref h2, .int (nI mk), .int (nI mt)] (gI D [(cI, .int), (cZ, .boolean), (cO, .object "java/lang/Object"), (cL, .long)] b e0 A)) (vp_Si (fun z => z = bI (iAsk (kBu σ) mk mt t))) 0 0 (fun _ => False) := by
  refine Met.ofG (own := R_MB) (by decide +kernel) rfl (Nat.le_of_ble_eq_true rfl) ?_
  intro p e s m below meth c ls hx hb hr hlk hml hown hnm hts hI hl
  have hl : lv_has ls 4 [(0, .ref h), (1, .ref h2), (2, .int (nI mk)), (3, .int (nI mt))] := hl
  obtain ⟨hP, hK⟩ := hI
  obtain ⟨ra, ia, sa, ua, aR, aI, aM, fs, fB, hLR, hLI, fS, hfs, hBu, hRs, hIs⟩ := id hB
  obtain ⟨w1, w2, w3, w4, w5, w6, w7, w8⟩ := id hw
  obtain ⟨moR, qR, capR, efR, fLR, -⟩ := id hLR
  obtain ⟨moI, qI, capI, efI, fLI, -⟩ := id hLI
  obtain ⟨hk, hv, fk, fv, fM, fK, fV, hn3, hms⟩ := id hBu
  refine lv_aload_n hx hb d_MB_isSought_0 rfl (lv_at hl 1 rfl) ?_
  refine g_get hx hb hts i_In hown hK.1 hP hi rfl 10 (by decide) (hts _ k_294) (fun _ h9 => h9) rfl d_MB_isSought_1 ?_
  refine lv_if_eq (tgt := 38) hx hb d_MB_isSought_4 (by decide) (fun c1 => ?_) (fun c1 => ?_)
  · skip
    rw [bI_0] at c1
    refine lv_iconst (v := 0) hx hb d_MB_isSought_38 (by decide) ?_
    exact W.zret hx hb hr rfl (fun t ht _ => ⟨_, rfl, (by simp_all [iAsk, bI]), ht⟩) (fun _ h => nomatch h) d_MB_isSought_39
  · skip
    rw [bI_0] at c1
    refine lv_aload_n hx hb d_MB_isSought_7 rfl (lv_at hl 1 rfl) ?_
    refine g_get hx hb hts i_In hown hK.1 hP hi rfl 0 (by decide) (hts _ k_273) (fun _ h9 => h9) rfl d_MB_isSought_8 ?_
    refine lv_iload_n hx hb d_MB_isSought_11 rfl (lv_at hl 2 rfl) ?_
    refine lv_icmp_ne (tgt := 38) hx hb d_MB_isSought_12 (by decide) (fun c2 => ?_) (fun c2 => ?_)
    · skip
      rw [nI_eq (by omega) (by omega)] at c2
      refine lv_iconst (v := 0) hx hb d_MB_isSought_38 (by decide) ?_
      exact W.zret hx hb hr rfl (fun t ht _ => ⟨_, rfl, (by simp_all [iAsk, bI]), ht⟩) (fun _ h => nomatch h) d_MB_isSought_39
    · skip
      rw [nI_eq (by omega) (by omega)] at c2
      refine lv_aload_n hx hb d_MB_isSought_15 rfl (lv_at hl 1 rfl) ?_
      refine g_get hx hb hts i_In hown hK.1 hP hi rfl 1 (by decide) (hts _ k_276) (fun _ h9 => h9) rfl d_MB_isSought_16 ?_
      refine lv_iload_n hx hb d_MB_isSought_19 rfl (lv_at hl 3 rfl) ?_
      refine lv_icmp_ne (tgt := 38) hx hb d_MB_isSought_20 (by decide) (fun c3 => ?_) (fun c3 => ?_)
      · skip
        rw [nI_eq (by omega) (by omega)] at c3
        refine lv_iconst (v := 0) hx hb d_MB_isSought_38 (by decide) ?_
        exact W.zret hx hb hr rfl (fun t ht _ => ⟨_, rfl, (by simp_all [iAsk, bI]), ht⟩) (fun _ h => nomatch h) d_MB_isSought_39
      · skip
        rw [nI_eq (by omega) (by omega)] at c3
        refine lv_aload_n hx hb d_MB_isSought_23 rfl (lv_at hl 0 rfl) ?_
        refine g_get hx hb hts i_MB hown hK.1 hP fB rfl 3 (by decide) (hts _ k_71) (fun _ h9 => h9) rfl d_MB_isSought_24 ?_
        refine lv_aload_n hx hb d_MB_isSought_27 rfl (lv_at hl 1 rfl) ?_
        refine g_ri (g_runV (As := [.ref h2]) (rest := []) ⟨hx, hb, hml, hown, hts⟩ (c_Ma_fit l hBu hi) st_Ma_fit k_369 ⟨rfl, rfl, by decide, by decide⟩ rfl (gI.preV hK va_S.rf hP fM rfl _) rfl hl.1 rfl (Nat.le_of_ble_eq_true rfl) d_MB_isSought_28 ⟨by decide, by decide⟩) (fun r4 hr4 => ?_)
        subst hr4
        refine lv_if_eq (tgt := 38) hx hb d_MB_isSought_31 (by decide) (fun c5 => ?_) (fun c5 => ?_)
        · skip
          rw [bI_0] at c5
          refine lv_iconst (v := 0) hx hb d_MB_isSought_38 (by decide) ?_
          exact W.zret hx hb hr rfl (fun t ht _ => ⟨_, rfl, (by simp_all [iAsk, bI]), ht⟩) (fun _ h => nomatch h) d_MB_isSought_39
        · skip
          rw [bI_0] at c5
          refine lv_iconst (v := 1) hx hb d_MB_isSought_34 (by decide) ?_
          refine lv_goto (tgt := 39) hx hb d_MB_isSought_35 (by decide) ?_
          exact W.zret hx hb hr rfl (fun t ht _ => ⟨_, rfl, (by simp_all [iAsk, bI]), ht⟩) (fun _ h => nomatch h) d_MB_isSought_39
end
section
theorem nI_z {a : Nat} (h : a < 2 ^ 31) : nI a = 0 ↔ a = 0 := by rw [← nI_0, nI_eq h (by decide)]
set_option maxHeartbeats 4000000 in
set_option maxRecDepth 100000 in
theorem c_MB_ruleNumberFor (l : Launch) {D : va_G} {cI cZ cO cL : ClassId} {b e0 : Nat} {A : gW} {h : Nat} {σ : Bk} (hB : rBk cI cZ cO e0 A h σ) (hw : wf σ) {j h2 : Nat} {t : It} (hi : rIn A j h2 t) (b3 : iMk t < 4) (b4 : iMt t < 8) : Met l y_MB_ruleNumberFor (Cond.code y_MB_ruleNumberFor b_MB_ruleNumberFor 3 (some .int) :: TT) ({ frames := 4, cells := 0, slots := 0, locals := 87 }) (va_Pc [.ref h, .ref h2] (gI D [(cI, .int), (cZ, .boolean), (cO, .object "java/lang/Object"), (cL, .long)] b e0 A)) (vp_Si (fun z => z = nI (ruFor (kRs σ) (iMk t) (iMt t) (iX t)) - 1)) 0 0 (fun _ => False) := by
  refine Met.ofG (own := R_MB) (by decide +kernel) rfl (Nat.le_of_ble_eq_true rfl) ?_
  intro p e s m below meth c ls hx hb hr hlk hml hown hnm hts hI hl
  have hl : lv_has ls 3 [(0, .ref h), (1, .ref h2)] := hl
  obtain ⟨hP, hK⟩ := hI
  obtain ⟨ra, ia, sa, ua, aR, aI, aM, fs, fB, hLR, hLI, fS, hfs, hBu, hRs, hIs⟩ := id hB
  obtain ⟨w1, w2, w3, w4, w5, w6, w7, w8⟩ := id hw
  obtain ⟨moR, qR, capR, efR, fLR, -⟩ := id hLR
  obtain ⟨moI, qI, capI, efI, fLI, -⟩ := id hLI
  obtain ⟨hk, hv, fk, fv, fM, fK, fV, hn3, hms⟩ := id hBu
  refine lv_aload_n hx hb d_MB_ruleNumberFor_0 rfl (lv_at hl 0 rfl) ?_
  refine g_get hx hb hts i_MB hown hK.1 hP fB rfl 0 (by decide) (hts _ k_68) (fun _ h9 => h9) rfl d_MB_ruleNumberFor_1 ?_
  refine g_ri (g_runV (As := []) (rest := []) ⟨hx, hb, hml, hown, hts⟩ (c_AL_size l hLR) st_AL_size k_120 ⟨rfl, rfl, by decide, by decide⟩ rfl (gI.preV hK va_S.rf hP fLR rfl _) rfl hl.1 rfl (Nat.le_of_ble_eq_true rfl) d_MB_ruleNumberFor_4 ⟨by decide, by decide⟩) (fun r1 hr1 => ?_)
  subst hr1
  refine lv_iconst (v := 1) hx hb d_MB_ruleNumberFor_7 (by decide) ?_
  refine lv_isub hx hb d_MB_ruleNumberFor_8 ?_
  refine lv_istore_n (lv' := [(2, .int ((nI (kRs σ).length) - 1)), (0, .ref h), (1, .ref h2)]) hx hb d_MB_ruleNumberFor_9 rfl hl (by decide) rfl (fun ls hl => ?_)
  obtain ⟨n, hn⟩ : ∃ z : Nat, z = (kRs σ).length := ⟨_, rfl⟩
  replace hl : lv_has ls 3 [(2, .int (nI n - 1)), (0, .ref h), (1, .ref h2)] := by rw [hn]; exact hl
  have hinv : lst (fun i => uAns ((kRs σ).getD i u0) (iMk t) (iMt t) (iX t)) n = ruFor (kRs σ) (iMk t) (iMt t) (iX t) := by rw [hn]; rfl
  have hle : n ≤ (kRs σ).length := by omega
  clear hn
  induction n generalizing ls with
  | zero =>
    refine lv_iload_n hx hb d_MB_ruleNumberFor_10 rfl (lv_at hl 0 rfl) ?_
    refine lv_if_lt (tgt := 40) hx hb d_MB_ruleNumberFor_11 (by decide) (fun _ => ?_) (fun h9 => absurd (by decide : nI 0 - 1 < 0) h9)
    refine lv_iconst (v := (-1)) hx hb d_MB_ruleNumberFor_40 (by decide) ?_
    exact W.iret hx hb hr (fun t ht _ => ⟨_, rfl, (by rw [← hinv]; show (-1 : Int32) = nI 0 - 1; decide), ht⟩) (fun _ h => nomatch h) d_MB_ruleNumberFor_41
  | succ n ih =>
    rw [nI_pred] at hl
    refine lv_iload_n hx hb d_MB_ruleNumberFor_10 rfl (lv_at hl 0 rfl) ?_
    refine lv_if_lt (tgt := 40) hx hb d_MB_ruleNumberFor_11 (by decide) (fun h9 => absurd h9 (nI_pos (show n < 2 ^ 31 by omega))) (fun _ => ?_)
    refine lv_aload_n hx hb d_MB_ruleNumberFor_14 rfl (lv_at hl 1 rfl) ?_
    refine g_get hx hb hts i_MB hown hK.1 hP fB rfl 0 (by decide) (hts _ k_68) (fun _ h9 => h9) rfl d_MB_ruleNumberFor_15 ?_
    refine lv_iload_n hx hb d_MB_ruleNumberFor_18 rfl (lv_at hl 0 rfl) ?_
    refine g_rr (g_runV (As := [.int (nI n)]) (rest := []) ⟨hx, hb, hml, hown, hts⟩ (c_AL_get l hLR (i := n) (by omega)) st_AL_get k_222 ⟨rfl, rfl, by decide, by decide⟩ rfl (gI.preV hK va_S.rf hP fLR rfl _) rfl hl.1 rfl (Nat.le_of_ble_eq_true rfl) d_MB_ruleNumberFor_19 ⟨by decide, by decide⟩) ?_
    obtain ⟨r4, hr4⟩ : ∃ z, z = (kRs σ).getD n u0 := ⟨_, rfl⟩
    have fr4 : rRu cI A n (aR n) (aM n) r4 := by rw [hr4]; exact (hRs n (by omega)).2
    have mr4 : rMa cI A n (aM n) (uMs r4) := by rw [hr4]; exact (hRs n (by omega)).1
    have br4 : wfR r4 := by rw [hr4]; exact w3 n (by omega)
    obtain ⟨br41, br42, br43, br44, br45, br46, br47⟩ := br4
    obtain ⟨hk4, hv4, fk4, fv4, fR4, fK4, fV4, hn4, hac4⟩ := id fr4
    refine va_castY (C := R_Ru) hx hb hown (hts _ k_124) (hK.2.1 _ (List.mem_of_getElem? (i := 5) rfl)) (va_recv (q0 := 0) hK.1 (hP.one fR4) rfl rfl) d_MB_ruleNumberFor_22 ?_
    refine lv_aload_n hx hb d_MB_ruleNumberFor_25 rfl (lv_at hl 2 rfl) ?_
    refine g_ri (g_runV (As := [.ref h2]) (rest := []) ⟨hx, hb, hml, hown, hts⟩ (c_Ru_answersTo l fr4 mr4 hi (by omega) (by omega) (by omega) (by omega)) st_Ru_answersTo k_322 ⟨rfl, rfl, by decide, by decide⟩ rfl (gI.preV hK va_S.rf hP fR4 rfl _) rfl hl.1 rfl (Nat.le_of_ble_eq_true rfl) d_MB_ruleNumberFor_26 ⟨by decide, by decide⟩) (fun r5 hr5 => ?_)
    subst hr5
    refine lv_if_eq (tgt := 34) hx hb d_MB_ruleNumberFor_29 (by decide) (fun c6 => ?_) (fun c6 => ?_)
    · skip
      rw [bI_0] at c6
      refine lv_iinc (v := nI n - 1) (lv' := [(2, .int (nI n - 1)), (0, .ref h), (1, .ref h2)]) hx hb d_MB_ruleNumberFor_34 hl (k := 0) rfl (dec1 _) (by decide) rfl (fun ls hl => ?_)
      refine lv_goto (tgt := 10) hx hb d_MB_ruleNumberFor_37 (by decide) ?_
      exact ih _ (lv_sub hl [0, 1, 2] rfl) (by simp_all [lst]) (by omega)
    · skip
      rw [bI_0] at c6
      refine lv_iload_n hx hb d_MB_ruleNumberFor_32 rfl (lv_at hl 0 rfl) ?_
      exact W.iret hx hb hr (fun t ht _ => ⟨_, rfl, (by rw [← hinv]; simp_all [lst, nI_pred]), ht⟩) (fun _ h => nomatch h) d_MB_ruleNumberFor_33
set_option maxHeartbeats 4000000 in
set_option maxRecDepth 100000 in
theorem c_MB_countSought (l : Launch) {D : va_G} {cI cZ cO cL : ClassId} {b e0 : Nat} {A : gW} {h : Nat} {σ : Bk} (hB : rBk cI cZ cO e0 A h σ) (hw : wf σ) {mk mt : Nat} (b1 : mk < 4) (b2 : mt < 8) : Met l y_MB_countSought (Cond.code y_MB_countSought b_MB_countSought 5 (some .int) :: TT) ({ frames := 4, cells := 0, slots := 0, locals := 89 }) (va_Pc [.ref h, .int (nI mk), .int (nI mt)] (gI D [(cI, .int), (cZ, .boolean), (cO, .object "java/lang/Object"), (cL, .long)] b e0 A)) (vp_Si (fun z => z = nI (cnt (qAsk σ mk mt) (kIs σ).length))) 0 0 (fun _ => False) := by
  refine Met.ofG (own := R_MB) (by decide +kernel) rfl (Nat.le_of_ble_eq_true rfl) ?_
  intro p e s m below meth c ls hx hb hr hlk hml hown hnm hts hI hl
  have hl : lv_has ls 5 [(0, .ref h), (1, .int (nI mk)), (2, .int (nI mt))] := hl
  obtain ⟨hP, hK⟩ := hI
  obtain ⟨ra, ia, sa, ua, aR, aI, aM, fs, fB, hLR, hLI, fS, hfs, hBu, hRs, hIs⟩ := id hB
  obtain ⟨w1, w2, w3, w4, w5, w6, w7, w8⟩ := id hw
  obtain ⟨moR, qR, capR, efR, fLR, -⟩ := id hLR
  obtain ⟨moI, qI, capI, efI, fLI, -⟩ := id hLI
  obtain ⟨hk, hv, fk, fv, fM, fK, fV, hn3, hms⟩ := id hBu
  refine lv_iconst (v := 0) hx hb d_MB_countSought_0 (by decide) ?_
  refine lv_istore_n (lv' := [(3, .int 0), (0, .ref h), (1, .int (nI mk)), (2, .int (nI mt))]) hx hb d_MB_countSought_1 rfl hl (by decide) rfl (fun ls hl => ?_)
  refine lv_iconst (v := 0) hx hb d_MB_countSought_2 (by decide) ?_
  refine lv_istore (lv' := [(4, .int 0), (3, .int 0), (0, .ref h), (1, .int (nI mk)), (2, .int (nI mt))]) hx hb d_MB_countSought_3 hl (by decide) rfl (fun ls hl => ?_)
  obtain ⟨i, hi0⟩ : ∃ z : Nat, z = 0 := ⟨_, rfl⟩
  obtain ⟨cn, hcn0⟩ : ∃ z : Nat, z = 0 := ⟨_, rfl⟩
  obtain ⟨n, hn⟩ : ∃ z : Nat, i + z = (kIs σ).length := ⟨(kIs σ).length - i, by omega⟩
  replace hl : lv_has ls 5 [(4, .int (nI i)), (3, .int (nI cn)), (0, .ref h), (1, .int (nI mk)), (2, .int (nI mt))] := by rw [hi0, hcn0, nI_0]; exact hl
  have hinv : cn = cnt (qAsk σ mk mt) i := by subst hi0 hcn0; rfl
  clear hi0 hcn0
  induction n generalizing i cn ls with
  | zero =>
    refine lv_iload hx hb d_MB_countSought_5 (lv_at hl 0 rfl) ?_
    refine lv_aload_n hx hb d_MB_countSought_7 rfl (lv_at hl 2 rfl) ?_
    refine g_get hx hb hts i_MB hown hK.1 hP fB rfl 1 (by decide) (hts _ k_69) (fun _ h9 => h9) rfl d_MB_countSought_8 ?_
    refine g_ri (g_runV (As := []) (rest := [.int (nI i)]) ⟨hx, hb, hml, hown, hts⟩ (c_AL_size l hLI) st_AL_size k_120 ⟨rfl, rfl, by decide, by decide⟩ rfl (gI.preV hK va_S.rf hP fLI rfl _) rfl hl.1 rfl (Nat.le_of_ble_eq_true rfl) d_MB_countSought_11 ⟨by decide, by decide⟩) (fun r1 hr1 => ?_)
    subst hr1
    refine lv_icmp_ge (tgt := 47) hx hb d_MB_countSought_14 (by decide) (fun _ => ?_) (fun h9 => absurd (nI_le (show (kIs σ).length ≤ i by omega) (by omega)) h9)
    refine lv_iload_n hx hb d_MB_countSought_47 rfl (lv_at hl 1 rfl) ?_
    exact W.iret hx hb hr (fun t ht _ => ⟨_, rfl, (by rw [hinv, show i = (kIs σ).length by omega]), ht⟩) (fun _ h => nomatch h) d_MB_countSought_48
  | succ n ih =>
    refine lv_iload hx hb d_MB_countSought_5 (lv_at hl 0 rfl) ?_
    refine lv_aload_n hx hb d_MB_countSought_7 rfl (lv_at hl 2 rfl) ?_
    refine g_get hx hb hts i_MB hown hK.1 hP fB rfl 1 (by decide) (hts _ k_69) (fun _ h9 => h9) rfl d_MB_countSought_8 ?_
    refine g_ri (g_runV (As := []) (rest := [.int (nI i)]) ⟨hx, hb, hml, hown, hts⟩ (c_AL_size l hLI) st_AL_size k_120 ⟨rfl, rfl, by decide, by decide⟩ rfl (gI.preV hK va_S.rf hP fLI rfl _) rfl hl.1 rfl (Nat.le_of_ble_eq_true rfl) d_MB_countSought_11 ⟨by decide, by decide⟩) (fun r3 hr3 => ?_)
    subst hr3
    refine lv_icmp_ge (tgt := 47) hx hb d_MB_countSought_14 (by decide) (fun h9 => absurd h9 (nI_ge (show i < (kIs σ).length by omega) (by omega))) (fun _ => ?_)
    refine lv_aload_n hx hb d_MB_countSought_17 rfl (lv_at hl 2 rfl) ?_
    refine lv_aload_n hx hb d_MB_countSought_18 rfl (lv_at hl 2 rfl) ?_
    refine g_get hx hb hts i_MB hown hK.1 hP fB rfl 1 (by decide) (hts _ k_69) (fun _ h9 => h9) rfl d_MB_countSought_19 ?_
    refine lv_iload hx hb d_MB_countSought_22 (lv_at hl 0 rfl) ?_
    refine g_rr (g_runV (As := [.int (nI i)]) (rest := [.ref h]) ⟨hx, hb, hml, hown, hts⟩ (c_AL_get l hLI (i := i) (by omega)) st_AL_get k_222 ⟨rfl, rfl, by decide, by decide⟩ rfl (gI.preV hK va_S.rf hP fLI rfl _) rfl hl.1 rfl (Nat.le_of_ble_eq_true rfl) d_MB_countSought_24 ⟨by decide, by decide⟩) ?_
    obtain ⟨t5, ht5⟩ : ∃ z, z = (kIs σ).getD i i0 := ⟨_, rfl⟩
    have ft5 : rIn A i (aI i) t5 := by rw [ht5]; exact hIs i (by omega)
    have bt5 : wfI t5 := by rw [ht5]; exact (w4 i (by omega)).1
    obtain ⟨bt51, bt52⟩ := bt5
    refine va_castY (C := R_In) hx hb hown (hts _ k_263) (hK.2.1 _ (List.mem_of_getElem? (i := 6) rfl)) (va_recv (q0 := 0) hK.1 (hP.one ft5) rfl rfl) d_MB_countSought_27 ?_
    refine lv_iload_n hx hb d_MB_countSought_30 rfl (lv_at hl 3 rfl) ?_
    refine lv_iload_n hx hb d_MB_countSought_31 rfl (lv_at hl 4 rfl) ?_
    refine g_ri (g_runV (As := [.ref ((aI i)), .int (nI mk), .int (nI mt)]) (rest := []) ⟨hx, hb, hml, hown, hts⟩ (c_MB_isSought l hB hw ft5 (by omega) (by omega) (by omega) (by omega)) st_MB_isSought k_365 ⟨rfl, rfl, by decide, by decide⟩ rfl (gI.preV hK va_S.rf hP fB rfl _) rfl hl.1 rfl (Nat.le_of_ble_eq_true rfl) d_MB_countSought_32 ⟨by decide, by decide⟩) (fun r6 hr6 => ?_)
    subst hr6
    refine lv_if_eq (tgt := 41) hx hb d_MB_countSought_35 (by decide) (fun c7 => ?_) (fun c7 => ?_)
    · skip
      rw [bI_0] at c7
      refine lv_iinc (v := nI (i + 1)) (lv' := [(4, .int (nI (i + 1))), (3, .int (nI cn)), (0, .ref h), (1, .int (nI mk)), (2, .int (nI mt))]) hx hb d_MB_countSought_41 hl (k := 0) rfl (nI_1 _) (by decide) rfl (fun ls hl => ?_)
      refine lv_goto (tgt := 5) hx hb d_MB_countSought_44 (by decide) ?_
      exact ih _ _ _ (by omega) (lv_sub hl [0, 1, 2, 3, 4] rfl) (by simp_all [cnt, qAsk])
    · skip
      rw [bI_0] at c7
      refine lv_iinc (v := nI (cn + 1)) (lv' := [(3, .int (nI (cn + 1))), (4, .int (nI i)), (0, .ref h), (1, .int (nI mk)), (2, .int (nI mt))]) hx hb d_MB_countSought_38 hl (k := 1) rfl (nI_1 _) (by decide) rfl (fun ls hl => ?_)
      refine lv_iinc (v := nI (i + 1)) (lv' := [(4, .int (nI (i + 1))), (3, .int (nI (cn + 1))), (0, .ref h), (1, .int (nI mk)), (2, .int (nI mt))]) hx hb d_MB_countSought_41 hl (k := 1) rfl (nI_1 _) (by decide) rfl (fun ls hl => ?_)
      refine lv_goto (tgt := 5) hx hb d_MB_countSought_44 (by decide) ?_
      exact ih _ _ _ (by omega) (lv_sub hl [0, 1, 2, 3, 4] rfl) (by simp_all [cnt, qAsk])
set_option maxHeartbeats 4000000 in
set_option maxRecDepth 100000 in
theorem c_MB_countLiveInteractions (l : Launch) {D : va_G} {cI cZ cO cL : ClassId} {b e0 : Nat} {A : gW} {h : Nat} {σ : Bk} (hB : rBk cI cZ cO e0 A h σ) (hw : wf σ) (z : Int32) : Met l y_MB_countLiveInteractions (Cond.code y_MB_countLiveInteractions b_MB_countLiveInteractions 5 (some .int) :: TT) ({ frames := 3, cells := 0, slots := 0, locals := 64 }) (va_Pc [.ref h, .int z] (gI D [(cI, .int), (cZ, .boolean), (cO, .object "java/lang/Object"), (cL, .long)] b e0 A)) (vp_Si (fun y => y = nI (cnt (qCnt σ z) (kIs σ).length))) 0 0 (fun _ => False) := by
  refine Met.ofG (own := R_MB) (by decide +kernel) rfl (Nat.le_of_ble_eq_true rfl) ?_
  intro p e s m below meth c ls hx hb hr hlk hml hown hnm hts hI hl
  have hl : lv_has ls 5 [(0, .ref h), (1, .int z)] := hl
  obtain ⟨hP, hK⟩ := hI
  obtain ⟨ra, ia, sa, ua, aR, aI, aM, fs, fB, hLR, hLI, fS, hfs, hBu, hRs, hIs⟩ := id hB
  obtain ⟨w1, w2, w3, w4, w5, w6, w7, w8⟩ := id hw
  obtain ⟨moR, qR, capR, efR, fLR, -⟩ := id hLR
  obtain ⟨moI, qI, capI, efI, fLI, -⟩ := id hLI
  obtain ⟨hk, hv, fk, fv, fM, fK, fV, hn3, hms⟩ := id hBu
  refine lv_iconst (v := 0) hx hb d_MB_countLiveInteractions_0 (by decide) ?_
  refine lv_istore_n (lv' := [(2, .int 0), (0, .ref h), (1, .int z)]) hx hb d_MB_countLiveInteractions_1 rfl hl (by decide) rfl (fun ls hl => ?_)
  refine lv_iconst (v := 0) hx hb d_MB_countLiveInteractions_2 (by decide) ?_
  refine lv_istore_n (lv' := [(3, .int 0), (2, .int 0), (0, .ref h), (1, .int z)]) hx hb d_MB_countLiveInteractions_3 rfl hl (by decide) rfl (fun ls hl => ?_)
  obtain ⟨i, hi0⟩ : ∃ z : Nat, z = 0 := ⟨_, rfl⟩
  obtain ⟨cn, hcn0⟩ : ∃ z : Nat, z = 0 := ⟨_, rfl⟩
  obtain ⟨n, hn⟩ : ∃ z : Nat, i + z = (kIs σ).length := ⟨(kIs σ).length - i, by omega⟩
  replace hl : lv_has ls 5 [(3, .int (nI i)), (2, .int (nI cn)), (0, .ref h), (1, .int z)] := by rw [hi0, hcn0, nI_0]; exact hl
  have hinv : cn = cnt (qCnt σ z) i := by subst hi0 hcn0; rfl
  clear hi0 hcn0
  induction n generalizing i cn ls with
  | zero =>
    refine lv_iload_n hx hb d_MB_countLiveInteractions_4 rfl (lv_at hl 0 rfl) ?_
    refine lv_aload_n hx hb d_MB_countLiveInteractions_5 rfl (lv_at hl 2 rfl) ?_
    refine g_get hx hb hts i_MB hown hK.1 hP fB rfl 1 (by decide) (hts _ k_69) (fun _ h9 => h9) rfl d_MB_countLiveInteractions_6 ?_
    refine g_ri (g_runV (As := []) (rest := [.int (nI i)]) ⟨hx, hb, hml, hown, hts⟩ (c_AL_size l hLI) st_AL_size k_120 ⟨rfl, rfl, by decide, by decide⟩ rfl (gI.preV hK va_S.rf hP fLI rfl _) rfl hl.1 rfl (Nat.le_of_ble_eq_true rfl) d_MB_countLiveInteractions_9 ⟨by decide, by decide⟩) (fun r1 hr1 => ?_)
    subst hr1
    refine lv_icmp_ge (tgt := 57) hx hb d_MB_countLiveInteractions_12 (by decide) (fun _ => ?_) (fun h9 => absurd (nI_le (show (kIs σ).length ≤ i by omega) (by omega)) h9)
    refine lv_iload_n hx hb d_MB_countLiveInteractions_57 rfl (lv_at hl 1 rfl) ?_
    exact W.iret hx hb hr (fun t ht _ => ⟨_, rfl, (by rw [hinv, show i = (kIs σ).length by omega]), ht⟩) (fun _ h => nomatch h) d_MB_countLiveInteractions_58
  | succ n ih =>
    refine lv_iload_n hx hb d_MB_countLiveInteractions_4 rfl (lv_at hl 0 rfl) ?_
    refine lv_aload_n hx hb d_MB_countLiveInteractions_5 rfl (lv_at hl 2 rfl) ?_
    refine g_get hx hb hts i_MB hown hK.1 hP fB rfl 1 (by decide) (hts _ k_69) (fun _ h9 => h9) rfl d_MB_countLiveInteractions_6 ?_
    refine g_ri (g_runV (As := []) (rest := [.int (nI i)]) ⟨hx, hb, hml, hown, hts⟩ (c_AL_size l hLI) st_AL_size k_120 ⟨rfl, rfl, by decide, by decide⟩ rfl (gI.preV hK va_S.rf hP fLI rfl _) rfl hl.1 rfl (Nat.le_of_ble_eq_true rfl) d_MB_countLiveInteractions_9 ⟨by decide, by decide⟩) (fun r3 hr3 => ?_)
    subst hr3
    refine lv_icmp_ge (tgt := 57) hx hb d_MB_countLiveInteractions_12 (by decide) (fun h9 => absurd h9 (nI_ge (show i < (kIs σ).length by omega) (by omega))) (fun _ => ?_)
    refine lv_aload_n hx hb d_MB_countLiveInteractions_15 rfl (lv_at hl 2 rfl) ?_
    refine g_get hx hb hts i_MB hown hK.1 hP fB rfl 1 (by decide) (hts _ k_69) (fun _ h9 => h9) rfl d_MB_countLiveInteractions_16 ?_
    refine lv_iload_n hx hb d_MB_countLiveInteractions_19 rfl (lv_at hl 0 rfl) ?_
    refine g_rr (g_runV (As := [.int (nI i)]) (rest := []) ⟨hx, hb, hml, hown, hts⟩ (c_AL_get l hLI (i := i) (by omega)) st_AL_get k_222 ⟨rfl, rfl, by decide, by decide⟩ rfl (gI.preV hK va_S.rf hP fLI rfl _) rfl hl.1 rfl (Nat.le_of_ble_eq_true rfl) d_MB_countLiveInteractions_20 ⟨by decide, by decide⟩) ?_
    obtain ⟨t5, ht5⟩ : ∃ z, z = (kIs σ).getD i i0 := ⟨_, rfl⟩
    have ft5 : rIn A i (aI i) t5 := by rw [ht5]; exact hIs i (by omega)
    have bt5 : wfI t5 := by rw [ht5]; exact (w4 i (by omega)).1
    obtain ⟨bt51, bt52⟩ := bt5
    refine va_castY (C := R_In) hx hb hown (hts _ k_263) (hK.2.1 _ (List.mem_of_getElem? (i := 6) rfl)) (va_recv (q0 := 0) hK.1 (hP.one ft5) rfl rfl) d_MB_countLiveInteractions_23 ?_
    refine lv_astore (lv' := [(4, .ref ((aI i))), (3, .int (nI i)), (2, .int (nI cn)), (0, .ref h), (1, .int z)]) hx hb d_MB_countLiveInteractions_26 hl (by decide) rfl (fun ls hl => ?_)
    refine lv_aload hx hb d_MB_countLiveInteractions_28 (lv_at hl 0 rfl) ?_
    refine g_get hx hb hts i_In hown hK.1 hP ft5 rfl 10 (by decide) (hts _ k_294) (fun _ h9 => h9) rfl d_MB_countLiveInteractions_30 ?_
    refine lv_if_eq (tgt := 51) hx hb d_MB_countLiveInteractions_33 (by decide) (fun c6 => ?_) (fun c6 => ?_)
    · skip
      rw [bI_0] at c6
      refine lv_iinc (v := nI (i + 1)) (lv' := [(3, .int (nI (i + 1))), (4, .ref ((aI i))), (2, .int (nI cn)), (0, .ref h), (1, .int z)]) hx hb d_MB_countLiveInteractions_51 hl (k := 1) rfl (nI_1 _) (by decide) rfl (fun ls hl => ?_)
      refine lv_goto (tgt := 4) hx hb d_MB_countLiveInteractions_54 (by decide) ?_
      exact ih _ _ _ (by omega) (lv_sub hl [0, 2, 3, 4] rfl) (by simp_all [cnt, qCnt])
    · skip
      rw [bI_0] at c6
      refine lv_aload hx hb d_MB_countLiveInteractions_36 (lv_at hl 0 rfl) ?_
      refine g_get hx hb hts i_In hown hK.1 hP ft5 rfl 9 (by decide) (hts _ k_292) (fun _ h9 => h9) rfl d_MB_countLiveInteractions_38 ?_
      refine lv_if_ne (tgt := 48) hx hb d_MB_countLiveInteractions_41 (by decide) (fun c7 => ?_) (fun c7 => ?_)
      · skip
        rw [bI_0] at c7
        refine lv_iinc (v := nI (cn + 1)) (lv' := [(2, .int (nI (cn + 1))), (4, .ref ((aI i))), (3, .int (nI i)), (0, .ref h), (1, .int z)]) hx hb d_MB_countLiveInteractions_48 hl (k := 2) rfl (nI_1 _) (by decide) rfl (fun ls hl => ?_)
        refine lv_iinc (v := nI (i + 1)) (lv' := [(3, .int (nI (i + 1))), (2, .int (nI (cn + 1))), (4, .ref ((aI i))), (0, .ref h), (1, .int z)]) hx hb d_MB_countLiveInteractions_51 hl (k := 2) rfl (nI_1 _) (by decide) rfl (fun ls hl => ?_)
        refine lv_goto (tgt := 4) hx hb d_MB_countLiveInteractions_54 (by decide) ?_
        exact ih _ _ _ (by omega) (lv_sub hl [0, 1, 3, 4] rfl) (by simp_all [cnt, qCnt])
      · skip
        rw [bI_0] at c7
        refine lv_iload_n hx hb d_MB_countLiveInteractions_44 rfl (lv_at hl 4 rfl) ?_
        refine lv_if_ne (tgt := 51) hx hb d_MB_countLiveInteractions_45 (by decide) (fun c8 => ?_) (fun c8 => ?_)
        · skip
          refine lv_iinc (v := nI (i + 1)) (lv' := [(3, .int (nI (i + 1))), (4, .ref ((aI i))), (2, .int (nI cn)), (0, .ref h), (1, .int z)]) hx hb d_MB_countLiveInteractions_51 hl (k := 1) rfl (nI_1 _) (by decide) rfl (fun ls hl => ?_)
          refine lv_goto (tgt := 4) hx hb d_MB_countLiveInteractions_54 (by decide) ?_
          exact ih _ _ _ (by omega) (lv_sub hl [0, 2, 3, 4] rfl) (by simp_all [cnt, qCnt])
        · skip
          refine lv_iinc (v := nI (cn + 1)) (lv' := [(2, .int (nI (cn + 1))), (4, .ref ((aI i))), (3, .int (nI i)), (0, .ref h), (1, .int z)]) hx hb d_MB_countLiveInteractions_48 hl (k := 2) rfl (nI_1 _) (by decide) rfl (fun ls hl => ?_)
          refine lv_iinc (v := nI (i + 1)) (lv' := [(3, .int (nI (i + 1))), (2, .int (nI (cn + 1))), (4, .ref ((aI i))), (0, .ref h), (1, .int z)]) hx hb d_MB_countLiveInteractions_51 hl (k := 2) rfl (nI_1 _) (by decide) rfl (fun ls hl => ?_)
          refine lv_goto (tgt := 4) hx hb d_MB_countLiveInteractions_54 (by decide) ?_
          exact ih _ _ _ (by omega) (lv_sub hl [0, 1, 3, 4] rfl) (by simp_all [cnt, qCnt])
set_option maxHeartbeats 4000000 in
set_option maxRecDepth 100000 in
theorem c_MB_countLiveRules (l : Launch) {D : va_G} {cI cZ cO cL : ClassId} {b e0 : Nat} {A : gW} {h : Nat} {σ : Bk} (hB : rBk cI cZ cO e0 A h σ) (hw : wf σ)  : Met l y_MB_countLiveRules (Cond.code y_MB_countLiveRules b_MB_countLiveRules 3 (some .int) :: TT) ({ frames := 3, cells := 0, slots := 0, locals := 64 }) (va_Pc [.ref h] (gI D [(cI, .int), (cZ, .boolean), (cO, .object "java/lang/Object"), (cL, .long)] b e0 A)) (vp_Si (fun y => y = nI (cnt (qRul σ) (kRs σ).length))) 0 0 (fun _ => False) := by
  refine Met.ofG (own := R_MB) (by decide +kernel) rfl (Nat.le_of_ble_eq_true rfl) ?_
  intro p e s m below meth c ls hx hb hr hlk hml hown hnm hts hI hl
  have hl : lv_has ls 3 [(0, .ref h)] := hl
  obtain ⟨hP, hK⟩ := hI
  obtain ⟨ra, ia, sa, ua, aR, aI, aM, fs, fB, hLR, hLI, fS, hfs, hBu, hRs, hIs⟩ := id hB
  obtain ⟨w1, w2, w3, w4, w5, w6, w7, w8⟩ := id hw
  obtain ⟨moR, qR, capR, efR, fLR, -⟩ := id hLR
  obtain ⟨moI, qI, capI, efI, fLI, -⟩ := id hLI
  obtain ⟨hk, hv, fk, fv, fM, fK, fV, hn3, hms⟩ := id hBu
  refine lv_iconst (v := 0) hx hb d_MB_countLiveRules_0 (by decide) ?_
  refine lv_istore_n (lv' := [(1, .int 0), (0, .ref h)]) hx hb d_MB_countLiveRules_1 rfl hl (by decide) rfl (fun ls hl => ?_)
  refine lv_iconst (v := 0) hx hb d_MB_countLiveRules_2 (by decide) ?_
  refine lv_istore_n (lv' := [(2, .int 0), (1, .int 0), (0, .ref h)]) hx hb d_MB_countLiveRules_3 rfl hl (by decide) rfl (fun ls hl => ?_)
  obtain ⟨i, hi0⟩ : ∃ z : Nat, z = 0 := ⟨_, rfl⟩
  obtain ⟨cn, hcn0⟩ : ∃ z : Nat, z = 0 := ⟨_, rfl⟩
  obtain ⟨n, hn⟩ : ∃ z : Nat, i + z = (kRs σ).length := ⟨(kRs σ).length - i, by omega⟩
  replace hl : lv_has ls 3 [(2, .int (nI i)), (1, .int (nI cn)), (0, .ref h)] := by rw [hi0, hcn0, nI_0]; exact hl
  have hinv : cn = cnt (qRul σ) i := by subst hi0 hcn0; rfl
  clear hi0 hcn0
  induction n generalizing i cn ls with
  | zero =>
    refine lv_iload_n hx hb d_MB_countLiveRules_4 rfl (lv_at hl 0 rfl) ?_
    refine lv_aload_n hx hb d_MB_countLiveRules_5 rfl (lv_at hl 2 rfl) ?_
    refine g_get hx hb hts i_MB hown hK.1 hP fB rfl 0 (by decide) (hts _ k_68) (fun _ h9 => h9) rfl d_MB_countLiveRules_6 ?_
    refine g_ri (g_runV (As := []) (rest := [.int (nI i)]) ⟨hx, hb, hml, hown, hts⟩ (c_AL_size l hLR) st_AL_size k_120 ⟨rfl, rfl, by decide, by decide⟩ rfl (gI.preV hK va_S.rf hP fLR rfl _) rfl hl.1 rfl (Nat.le_of_ble_eq_true rfl) d_MB_countLiveRules_9 ⟨by decide, by decide⟩) (fun r1 hr1 => ?_)
    subst hr1
    refine lv_icmp_ge (tgt := 41) hx hb d_MB_countLiveRules_12 (by decide) (fun _ => ?_) (fun h9 => absurd (nI_le (show (kRs σ).length ≤ i by omega) (by omega)) h9)
    refine lv_iload_n hx hb d_MB_countLiveRules_41 rfl (lv_at hl 1 rfl) ?_
    exact W.iret hx hb hr (fun t ht _ => ⟨_, rfl, (by rw [hinv, show i = (kRs σ).length by omega]), ht⟩) (fun _ h => nomatch h) d_MB_countLiveRules_42
  | succ n ih =>
    refine lv_iload_n hx hb d_MB_countLiveRules_4 rfl (lv_at hl 0 rfl) ?_
    refine lv_aload_n hx hb d_MB_countLiveRules_5 rfl (lv_at hl 2 rfl) ?_
    refine g_get hx hb hts i_MB hown hK.1 hP fB rfl 0 (by decide) (hts _ k_68) (fun _ h9 => h9) rfl d_MB_countLiveRules_6 ?_
    refine g_ri (g_runV (As := []) (rest := [.int (nI i)]) ⟨hx, hb, hml, hown, hts⟩ (c_AL_size l hLR) st_AL_size k_120 ⟨rfl, rfl, by decide, by decide⟩ rfl (gI.preV hK va_S.rf hP fLR rfl _) rfl hl.1 rfl (Nat.le_of_ble_eq_true rfl) d_MB_countLiveRules_9 ⟨by decide, by decide⟩) (fun r3 hr3 => ?_)
    subst hr3
    refine lv_icmp_ge (tgt := 41) hx hb d_MB_countLiveRules_12 (by decide) (fun h9 => absurd h9 (nI_ge (show i < (kRs σ).length by omega) (by omega))) (fun _ => ?_)
    refine lv_aload_n hx hb d_MB_countLiveRules_15 rfl (lv_at hl 2 rfl) ?_
    refine g_get hx hb hts i_MB hown hK.1 hP fB rfl 0 (by decide) (hts _ k_68) (fun _ h9 => h9) rfl d_MB_countLiveRules_16 ?_
    refine lv_iload_n hx hb d_MB_countLiveRules_19 rfl (lv_at hl 0 rfl) ?_
    refine g_rr (g_runV (As := [.int (nI i)]) (rest := []) ⟨hx, hb, hml, hown, hts⟩ (c_AL_get l hLR (i := i) (by omega)) st_AL_get k_222 ⟨rfl, rfl, by decide, by decide⟩ rfl (gI.preV hK va_S.rf hP fLR rfl _) rfl hl.1 rfl (Nat.le_of_ble_eq_true rfl) d_MB_countLiveRules_20 ⟨by decide, by decide⟩) ?_
    obtain ⟨r5, hr5⟩ : ∃ z, z = (kRs σ).getD i u0 := ⟨_, rfl⟩
    have fr5 : rRu cI A i (aR i) (aM i) r5 := by rw [hr5]; exact (hRs i (by omega)).2
    have mr5 : rMa cI A i (aM i) (uMs r5) := by rw [hr5]; exact (hRs i (by omega)).1
    have br5 : wfR r5 := by rw [hr5]; exact w3 i (by omega)
    obtain ⟨br51, br52, br53, br54, br55, br56, br57⟩ := br5
    obtain ⟨hk5, hv5, fk5, fv5, fR5, fK5, fV5, hn5, hac5⟩ := id fr5
    refine va_castY (C := R_Ru) hx hb hown (hts _ k_124) (hK.2.1 _ (List.mem_of_getElem? (i := 5) rfl)) (va_recv (q0 := 0) hK.1 (hP.one fR5) rfl rfl) d_MB_countLiveRules_23 ?_
    refine g_get hx hb hts i_Ru hown hK.1 hP fR5 rfl 7 (by decide) (hts _ k_143) (fun _ h9 => h9) rfl d_MB_countLiveRules_26 ?_
    refine lv_if_eq (tgt := 35) hx hb d_MB_countLiveRules_29 (by decide) (fun c6 => ?_) (fun c6 => ?_)
    · skip
      rw [bI_0] at c6
      refine lv_iinc (v := nI (i + 1)) (lv' := [(2, .int (nI (i + 1))), (1, .int (nI cn)), (0, .ref h)]) hx hb d_MB_countLiveRules_35 hl (k := 0) rfl (nI_1 _) (by decide) rfl (fun ls hl => ?_)
      refine lv_goto (tgt := 4) hx hb d_MB_countLiveRules_38 (by decide) ?_
      exact ih _ _ _ (by omega) (lv_sub hl [0, 1, 2] rfl) (by simp_all [cnt, qRul])
    · skip
      rw [bI_0] at c6
      refine lv_iinc (v := nI (cn + 1)) (lv' := [(1, .int (nI (cn + 1))), (2, .int (nI i)), (0, .ref h)]) hx hb d_MB_countLiveRules_32 hl (k := 1) rfl (nI_1 _) (by decide) rfl (fun ls hl => ?_)
      refine lv_iinc (v := nI (i + 1)) (lv' := [(2, .int (nI (i + 1))), (1, .int (nI (cn + 1))), (0, .ref h)]) hx hb d_MB_countLiveRules_35 hl (k := 1) rfl (nI_1 _) (by decide) rfl (fun ls hl => ?_)
      refine lv_goto (tgt := 4) hx hb d_MB_countLiveRules_38 (by decide) ?_
      exact ih _ _ _ (by omega) (lv_sub hl [0, 1, 2] rfl) (by simp_all [cnt, qRul])
set_option maxHeartbeats 4000000 in
set_option maxRecDepth 100000 in
theorem c_MB_unused (l : Launch) {D : va_G} {cI cZ cO cL : ClassId} {b e0 : Nat} {A : gW} {h : Nat} {σ : Bk} (hB : rBk cI cZ cO e0 A h σ) (hw : wf σ)  : Met l y_MB_unused (Cond.code y_MB_unused b_MB_unused 3 (some .int) :: TT) ({ frames := 3, cells := 0, slots := 0, locals := 64 }) (va_Pc [.ref h] (gI D [(cI, .int), (cZ, .boolean), (cO, .object "java/lang/Object"), (cL, .long)] b e0 A)) (vp_Si (fun y => y = sUnused σ)) 0 0 (fun _ => False) := by
  refine Met.ofG (own := R_MB) (by decide +kernel) rfl (Nat.le_of_ble_eq_true rfl) ?_
  intro p e s m below meth c ls hx hb hr hlk hml hown hnm hts hI hl
  have hl : lv_has ls 3 [(0, .ref h)] := hl
  obtain ⟨hP, hK⟩ := hI
  obtain ⟨ra, ia, sa, ua, aR, aI, aM, fs, fB, hLR, hLI, fS, hfs, hBu, hRs, hIs⟩ := id hB
  obtain ⟨w1, w2, w3, w4, w5, w6, w7, w8⟩ := id hw
  obtain ⟨moR, qR, capR, efR, fLR, -⟩ := id hLR
  obtain ⟨moI, qI, capI, efI, fLI, -⟩ := id hLI
  obtain ⟨hk, hv, fk, fv, fM, fK, fV, hn3, hms⟩ := id hBu
  refine lv_iconst (v := 0) hx hb d_MB_unused_0 (by decide) ?_
  refine lv_istore_n (lv' := [(1, .int 0), (0, .ref h)]) hx hb d_MB_unused_1 rfl hl (by decide) rfl (fun ls hl => ?_)
  obtain ⟨i, hi0⟩ : ∃ z : Nat, z = 0 := ⟨_, rfl⟩
  obtain ⟨n, hn⟩ : ∃ z : Nat, i + z = (kRs σ).length := ⟨(kRs σ).length - i, by omega⟩
  replace hl : lv_has ls 3 [(1, .int (nI i)), (0, .ref h)] := by rw [hi0, nI_0]; exact hl
  have hinv : fst' (qUnus σ) n i = sUnused σ := by subst hi0; rw [Nat.zero_add] at hn; rw [hn]; rfl
  clear hi0
  induction n generalizing i ls with
  | zero =>
    refine lv_iload_n hx hb d_MB_unused_2 rfl (lv_at hl 0 rfl) ?_
    refine lv_aload_n hx hb d_MB_unused_3 rfl (lv_at hl 1 rfl) ?_
    refine g_get hx hb hts i_MB hown hK.1 hP fB rfl 0 (by decide) (hts _ k_68) (fun _ h9 => h9) rfl d_MB_unused_4 ?_
    refine g_ri (g_runV (As := []) (rest := [.int (nI i)]) ⟨hx, hb, hml, hown, hts⟩ (c_AL_size l hLR) st_AL_size k_120 ⟨rfl, rfl, by decide, by decide⟩ rfl (gI.preV hK va_S.rf hP fLR rfl _) rfl hl.1 rfl (Nat.le_of_ble_eq_true rfl) d_MB_unused_7 ⟨by decide, by decide⟩) (fun r1 hr1 => ?_)
    subst hr1
    refine lv_icmp_ge (tgt := 47) hx hb d_MB_unused_10 (by decide) (fun _ => ?_) (fun h9 => absurd (nI_le (show (kRs σ).length ≤ i by omega) (by omega)) h9)
    refine lv_bipush (v := (-10)) hx hb d_MB_unused_47 (by decide) ?_
    exact W.iret hx hb hr (fun t ht _ => ⟨_, rfl, (by rw [← hinv]; first | rfl | simp_all [fst', qUnus]), ht⟩) (fun _ h => nomatch h) d_MB_unused_49
  | succ n ih =>
    refine lv_iload_n hx hb d_MB_unused_2 rfl (lv_at hl 0 rfl) ?_
    refine lv_aload_n hx hb d_MB_unused_3 rfl (lv_at hl 1 rfl) ?_
    refine g_get hx hb hts i_MB hown hK.1 hP fB rfl 0 (by decide) (hts _ k_68) (fun _ h9 => h9) rfl d_MB_unused_4 ?_
    refine g_ri (g_runV (As := []) (rest := [.int (nI i)]) ⟨hx, hb, hml, hown, hts⟩ (c_AL_size l hLR) st_AL_size k_120 ⟨rfl, rfl, by decide, by decide⟩ rfl (gI.preV hK va_S.rf hP fLR rfl _) rfl hl.1 rfl (Nat.le_of_ble_eq_true rfl) d_MB_unused_7 ⟨by decide, by decide⟩) (fun r3 hr3 => ?_)
    subst hr3
    refine lv_icmp_ge (tgt := 47) hx hb d_MB_unused_10 (by decide) (fun h9 => absurd h9 (nI_ge (show i < (kRs σ).length by omega) (by omega))) (fun _ => ?_)
    refine lv_aload_n hx hb d_MB_unused_13 rfl (lv_at hl 1 rfl) ?_
    refine g_get hx hb hts i_MB hown hK.1 hP fB rfl 0 (by decide) (hts _ k_68) (fun _ h9 => h9) rfl d_MB_unused_14 ?_
    refine lv_iload_n hx hb d_MB_unused_17 rfl (lv_at hl 0 rfl) ?_
    refine g_rr (g_runV (As := [.int (nI i)]) (rest := []) ⟨hx, hb, hml, hown, hts⟩ (c_AL_get l hLR (i := i) (by omega)) st_AL_get k_222 ⟨rfl, rfl, by decide, by decide⟩ rfl (gI.preV hK va_S.rf hP fLR rfl _) rfl hl.1 rfl (Nat.le_of_ble_eq_true rfl) d_MB_unused_18 ⟨by decide, by decide⟩) ?_
    obtain ⟨r5, hr5⟩ : ∃ z, z = (kRs σ).getD i u0 := ⟨_, rfl⟩
    have fr5 : rRu cI A i (aR i) (aM i) r5 := by rw [hr5]; exact (hRs i (by omega)).2
    have mr5 : rMa cI A i (aM i) (uMs r5) := by rw [hr5]; exact (hRs i (by omega)).1
    have br5 : wfR r5 := by rw [hr5]; exact w3 i (by omega)
    obtain ⟨br51, br52, br53, br54, br55, br56, br57⟩ := br5
    obtain ⟨hk5, hv5, fk5, fv5, fR5, fK5, fV5, hn5, hac5⟩ := id fr5
    refine va_castY (C := R_Ru) hx hb hown (hts _ k_124) (hK.2.1 _ (List.mem_of_getElem? (i := 5) rfl)) (va_recv (q0 := 0) hK.1 (hP.one fR5) rfl rfl) d_MB_unused_21 ?_
    refine lv_astore_n (lv' := [(2, .ref ((aR i))), (1, .int (nI i)), (0, .ref h)]) hx hb d_MB_unused_24 rfl hl (by decide) rfl (fun ls hl => ?_)
    refine lv_aload_n hx hb d_MB_unused_25 rfl (lv_at hl 0 rfl) ?_
    refine g_get hx hb hts i_Ru hown hK.1 hP fR5 rfl 7 (by decide) (hts _ k_143) (fun _ h9 => h9) rfl d_MB_unused_26 ?_
    refine lv_if_eq (tgt := 41) hx hb d_MB_unused_29 (by decide) (fun c6 => ?_) (fun c6 => ?_)
    · skip
      rw [bI_0] at c6
      refine lv_iinc (v := nI (i + 1)) (lv' := [(1, .int (nI (i + 1))), (2, .ref ((aR i))), (0, .ref h)]) hx hb d_MB_unused_41 hl (k := 1) rfl (nI_1 _) (by decide) rfl (fun ls hl => ?_)
      refine lv_goto (tgt := 2) hx hb d_MB_unused_44 (by decide) ?_
      exact ih _ _ (by omega) (lv_sub hl [0, 2] rfl) (by simp_all [fst', qUnus])
    · skip
      rw [bI_0] at c6
      refine lv_aload_n hx hb d_MB_unused_32 rfl (lv_at hl 0 rfl) ?_
      refine g_get hx hb hts i_Ru hown hK.1 hP fR5 rfl 6 (by decide) (hts _ k_141) (fun _ h9 => h9) rfl d_MB_unused_33 ?_
      refine lv_if_ne (tgt := 41) hx hb d_MB_unused_36 (by decide) (fun c7 => ?_) (fun c7 => ?_)
      · skip
        rw [nI_z (by omega)] at c7
        refine lv_iinc (v := nI (i + 1)) (lv' := [(1, .int (nI (i + 1))), (2, .ref ((aR i))), (0, .ref h)]) hx hb d_MB_unused_41 hl (k := 1) rfl (nI_1 _) (by decide) rfl (fun ls hl => ?_)
        refine lv_goto (tgt := 2) hx hb d_MB_unused_44 (by decide) ?_
        exact ih _ _ (by omega) (lv_sub hl [0, 2] rfl) (by simp_all [fst', qUnus])
      · skip
        rw [nI_z (by omega)] at c7
        refine lv_iload_n hx hb d_MB_unused_39 rfl (lv_at hl 1 rfl) ?_
        exact W.iret hx hb hr (fun t ht _ => ⟨_, rfl, (by rw [← hinv]; first | rfl | simp_all [fst', qUnus]), ht⟩) (fun _ h => nomatch h) d_MB_unused_40
set_option maxHeartbeats 4000000 in
set_option maxRecDepth 100000 in
theorem c_MB_open (l : Launch) {D : va_G} {cI cZ cO cL : ClassId} {b e0 : Nat} {A : gW} {h : Nat} {σ : Bk} (hB : rBk cI cZ cO e0 A h σ) (hw : wf σ) (x : Int32) : Met l y_MB_open (Cond.code y_MB_open b_MB_open 4 (some .int) :: TT) ({ frames := 3, cells := 0, slots := 0, locals := 64 }) (va_Pc [.ref h, .int x] (gI D [(cI, .int), (cZ, .boolean), (cO, .object "java/lang/Object"), (cL, .long)] b e0 A)) (vp_Si (fun y => y = sOpen σ x)) 0 0 (fun _ => False) := by
  refine Met.ofG (own := R_MB) (by decide +kernel) rfl (Nat.le_of_ble_eq_true rfl) ?_
  intro p e s m below meth c ls hx hb hr hlk hml hown hnm hts hI hl
  have hl : lv_has ls 4 [(0, .ref h), (1, .int x)] := hl
  obtain ⟨hP, hK⟩ := hI
  obtain ⟨ra, ia, sa, ua, aR, aI, aM, fs, fB, hLR, hLI, fS, hfs, hBu, hRs, hIs⟩ := id hB
  obtain ⟨w1, w2, w3, w4, w5, w6, w7, w8⟩ := id hw
  obtain ⟨moR, qR, capR, efR, fLR, -⟩ := id hLR
  obtain ⟨moI, qI, capI, efI, fLI, -⟩ := id hLI
  obtain ⟨hk, hv, fk, fv, fM, fK, fV, hn3, hms⟩ := id hBu
  refine lv_iload_n hx hb d_MB_open_0 rfl (lv_at hl 1 rfl) ?_
  refine g_ri (g_runS (As := [.int x]) (rest := []) ⟨hx, hb, hml, hown, hts⟩ (c_MB_isMock l x) st_MB_isMock k_110 ⟨rfl, rfl, by decide, by decide⟩ (gT_pre _) rfl hl.1 rfl (Nat.le_of_ble_eq_true rfl) d_MB_open_1 ⟨by decide, by decide⟩) (fun r1 hr1 => ?_)
  subst hr1
  refine lv_if_ne (tgt := 9) hx hb d_MB_open_4 (by decide) (fun c2 => ?_) (fun c2 => ?_)
  · skip
    rw [bI_0] at c2
    obtain ⟨mk, hmk, rfl⟩ := inR_of (M := 3) (n := 3) (by decide) (by simpa using c2 : inR x 0 3 = true)
    have hsp : sOpen σ (nI mk) = fst' (qOpen σ mk) (kIs σ).length 0 := by simp_all [sOpen, nI_clamp (show mk < 2 ^ 31 by omega)]
    refine lv_iconst (v := 0) hx hb d_MB_open_9 (by decide) ?_
    refine lv_istore_n (lv' := [(2, .int 0), (0, .ref h), (1, .int (nI mk))]) hx hb d_MB_open_10 rfl hl (by decide) rfl (fun ls hl => ?_)
    obtain ⟨i, hi0⟩ : ∃ z : Nat, z = 0 := ⟨_, rfl⟩
    obtain ⟨n, hn⟩ : ∃ z : Nat, i + z = (kIs σ).length := ⟨(kIs σ).length - i, by omega⟩
    replace hl : lv_has ls 4 [(2, .int (nI i)), (0, .ref h), (1, .int (nI mk))] := by rw [hi0, nI_0]; exact hl
    have hinv : fst' (qOpen σ mk) n i = sOpen σ (nI mk) := by subst hi0; rw [Nat.zero_add] at hn; rw [hn]; exact hsp.symm
    clear hi0
    induction n generalizing i ls with
    | zero =>
      refine lv_iload_n hx hb d_MB_open_11 rfl (lv_at hl 0 rfl) ?_
      refine lv_aload_n hx hb d_MB_open_12 rfl (lv_at hl 1 rfl) ?_
      refine g_get hx hb hts i_MB hown hK.1 hP fB rfl 1 (by decide) (hts _ k_69) (fun _ h9 => h9) rfl d_MB_open_13 ?_
      refine g_ri (g_runV (As := []) (rest := [.int (nI i)]) ⟨hx, hb, hml, hown, hts⟩ (c_AL_size l hLI) st_AL_size k_120 ⟨rfl, rfl, by decide, by decide⟩ rfl (gI.preV hK va_S.rf hP fLI rfl _) rfl hl.1 rfl (Nat.le_of_ble_eq_true rfl) d_MB_open_16 ⟨by decide, by decide⟩) (fun r3 hr3 => ?_)
      subst hr3
      refine lv_icmp_ge (tgt := 64) hx hb d_MB_open_19 (by decide) (fun _ => ?_) (fun h9 => absurd (nI_le (show (kIs σ).length ≤ i by omega) (by omega)) h9)
      refine lv_bipush (v := (-10)) hx hb d_MB_open_64 (by decide) ?_
      exact W.iret hx hb hr (fun t ht _ => ⟨_, rfl, (by first | (rw [← hinv]; rfl) | (rw [← hinv]; simp_all [fst', qOpen]; done) | (simp_all [sOpen]; done)), ht⟩) (fun _ h => nomatch h) d_MB_open_66
    | succ n ih =>
      refine lv_iload_n hx hb d_MB_open_11 rfl (lv_at hl 0 rfl) ?_
      refine lv_aload_n hx hb d_MB_open_12 rfl (lv_at hl 1 rfl) ?_
      refine g_get hx hb hts i_MB hown hK.1 hP fB rfl 1 (by decide) (hts _ k_69) (fun _ h9 => h9) rfl d_MB_open_13 ?_
      refine g_ri (g_runV (As := []) (rest := [.int (nI i)]) ⟨hx, hb, hml, hown, hts⟩ (c_AL_size l hLI) st_AL_size k_120 ⟨rfl, rfl, by decide, by decide⟩ rfl (gI.preV hK va_S.rf hP fLI rfl _) rfl hl.1 rfl (Nat.le_of_ble_eq_true rfl) d_MB_open_16 ⟨by decide, by decide⟩) (fun r5 hr5 => ?_)
      subst hr5
      refine lv_icmp_ge (tgt := 64) hx hb d_MB_open_19 (by decide) (fun h9 => absurd h9 (nI_ge (show i < (kIs σ).length by omega) (by omega))) (fun _ => ?_)
      refine lv_aload_n hx hb d_MB_open_22 rfl (lv_at hl 1 rfl) ?_
      refine g_get hx hb hts i_MB hown hK.1 hP fB rfl 1 (by decide) (hts _ k_69) (fun _ h9 => h9) rfl d_MB_open_23 ?_
      refine lv_iload_n hx hb d_MB_open_26 rfl (lv_at hl 0 rfl) ?_
      refine g_rr (g_runV (As := [.int (nI i)]) (rest := []) ⟨hx, hb, hml, hown, hts⟩ (c_AL_get l hLI (i := i) (by omega)) st_AL_get k_222 ⟨rfl, rfl, by decide, by decide⟩ rfl (gI.preV hK va_S.rf hP fLI rfl _) rfl hl.1 rfl (Nat.le_of_ble_eq_true rfl) d_MB_open_27 ⟨by decide, by decide⟩) ?_
      obtain ⟨t7, ht7⟩ : ∃ z, z = (kIs σ).getD i i0 := ⟨_, rfl⟩
      have ft7 : rIn A i (aI i) t7 := by rw [ht7]; exact hIs i (by omega)
      have bt7 : wfI t7 := by rw [ht7]; exact (w4 i (by omega)).1
      obtain ⟨bt71, bt72⟩ := bt7
      refine va_castY (C := R_In) hx hb hown (hts _ k_263) (hK.2.1 _ (List.mem_of_getElem? (i := 6) rfl)) (va_recv (q0 := 0) hK.1 (hP.one ft7) rfl rfl) d_MB_open_30 ?_
      refine lv_astore_n (lv' := [(3, .ref ((aI i))), (2, .int (nI i)), (0, .ref h), (1, .int (nI mk))]) hx hb d_MB_open_33 rfl hl (by decide) rfl (fun ls hl => ?_)
      refine lv_aload_n hx hb d_MB_open_34 rfl (lv_at hl 0 rfl) ?_
      refine g_get hx hb hts i_In hown hK.1 hP ft7 rfl 10 (by decide) (hts _ k_294) (fun _ h9 => h9) rfl d_MB_open_35 ?_
      refine lv_if_eq (tgt := 58) hx hb d_MB_open_38 (by decide) (fun c8 => ?_) (fun c8 => ?_)
      · skip
        rw [bI_0] at c8
        refine lv_iinc (v := nI (i + 1)) (lv' := [(2, .int (nI (i + 1))), (3, .ref ((aI i))), (0, .ref h), (1, .int (nI mk))]) hx hb d_MB_open_58 hl (k := 1) rfl (nI_1 _) (by decide) rfl (fun ls hl => ?_)
        refine lv_goto (tgt := 11) hx hb d_MB_open_61 (by decide) ?_
        exact ih _ _ (by omega) (lv_sub hl [0, 2, 3] rfl) (by simp_all [fst', qOpen])
      · skip
        rw [bI_0] at c8
        refine lv_aload_n hx hb d_MB_open_41 rfl (lv_at hl 0 rfl) ?_
        refine g_get hx hb hts i_In hown hK.1 hP ft7 rfl 0 (by decide) (hts _ k_273) (fun _ h9 => h9) rfl d_MB_open_42 ?_
        refine lv_iload_n hx hb d_MB_open_45 rfl (lv_at hl 3 rfl) ?_
        refine lv_icmp_ne (tgt := 58) hx hb d_MB_open_46 (by decide) (fun c9 => ?_) (fun c9 => ?_)
        · skip
          rw [nI_eq (by omega) (by omega)] at c9
          refine lv_iinc (v := nI (i + 1)) (lv' := [(2, .int (nI (i + 1))), (3, .ref ((aI i))), (0, .ref h), (1, .int (nI mk))]) hx hb d_MB_open_58 hl (k := 1) rfl (nI_1 _) (by decide) rfl (fun ls hl => ?_)
          refine lv_goto (tgt := 11) hx hb d_MB_open_61 (by decide) ?_
          exact ih _ _ (by omega) (lv_sub hl [0, 2, 3] rfl) (by simp_all [fst', qOpen])
        · skip
          rw [nI_eq (by omega) (by omega)] at c9
          refine lv_aload_n hx hb d_MB_open_49 rfl (lv_at hl 0 rfl) ?_
          refine g_get hx hb hts i_In hown hK.1 hP ft7 rfl 9 (by decide) (hts _ k_292) (fun _ h9 => h9) rfl d_MB_open_50 ?_
          refine lv_if_ne (tgt := 58) hx hb d_MB_open_53 (by decide) (fun c10 => ?_) (fun c10 => ?_)
          · skip
            rw [bI_0] at c10
            refine lv_iinc (v := nI (i + 1)) (lv' := [(2, .int (nI (i + 1))), (3, .ref ((aI i))), (0, .ref h), (1, .int (nI mk))]) hx hb d_MB_open_58 hl (k := 1) rfl (nI_1 _) (by decide) rfl (fun ls hl => ?_)
            refine lv_goto (tgt := 11) hx hb d_MB_open_61 (by decide) ?_
            exact ih _ _ (by omega) (lv_sub hl [0, 2, 3] rfl) (by simp_all [fst', qOpen])
          · skip
            rw [bI_0] at c10
            refine lv_iload_n hx hb d_MB_open_56 rfl (lv_at hl 1 rfl) ?_
            exact W.iret hx hb hr (fun t ht _ => ⟨_, rfl, (by first | (rw [← hinv]; rfl) | (rw [← hinv]; simp_all [fst', qOpen]; done) | (simp_all [sOpen]; done)), ht⟩) (fun _ h => nomatch h) d_MB_open_57
  · skip
    rw [bI_0] at c2
    refine lv_iconst (v := (-1)) hx hb d_MB_open_7 (by decide) ?_
    exact W.iret hx hb hr (fun t ht _ => ⟨_, rfl, (by first | (rw [← hinv]; rfl) | (rw [← hinv]; simp_all [fst', qOpen]; done) | (simp_all [sOpen]; done)), ht⟩) (fun _ h => nomatch h) d_MB_open_8
set_option maxHeartbeats 4000000 in
set_option maxRecDepth 100000 in
theorem c_MB_firstSoughtAfterMark (l : Launch) {D : va_G} {cI cZ cO cL : ClassId} {b e0 : Nat} {A : gW} {h : Nat} {σ : Bk} (hB : rBk cI cZ cO e0 A h σ) (hw : wf σ) {mk mt : Nat} (b1 : mk < 4) (b2 : mt < 8) : Met l y_MB_firstSoughtAfterMark (Cond.code y_MB_firstSoughtAfterMark b_MB_firstSoughtAfterMark 4 (some .int) :: TT) ({ frames := 4, cells := 0, slots := 0, locals := 89 }) (va_Pc [.ref h, .int (nI mk), .int (nI mt)] (gI D [(cI, .int), (cZ, .boolean), (cO, .object "java/lang/Object"), (cL, .long)] b e0 A)) (vp_Si (fun y => y = fst' (qAsk σ mk mt) ((kIs σ).length - kMk σ) (kMk σ))) 0 0 (fun _ => False) := by
  refine Met.ofG (own := R_MB) (by decide +kernel) rfl (Nat.le_of_ble_eq_true rfl) ?_
  intro p e s m below meth c ls hx hb hr hlk hml hown hnm hts hI hl
  have hl : lv_has ls 4 [(0, .ref h), (1, .int (nI mk)), (2, .int (nI mt))] := hl
  obtain ⟨hP, hK⟩ := hI
  obtain ⟨ra, ia, sa, ua, aR, aI, aM, fs, fB, hLR, hLI, fS, hfs, hBu, hRs, hIs⟩ := id hB
  obtain ⟨w1, w2, w3, w4, w5, w6, w7, w8⟩ := id hw
  obtain ⟨moR, qR, capR, efR, fLR, -⟩ := id hLR
  obtain ⟨moI, qI, capI, efI, fLI, -⟩ := id hLI
  obtain ⟨hk, hv, fk, fv, fM, fK, fV, hn3, hms⟩ := id hBu
  refine lv_aload_n hx hb d_MB_firstSoughtAfterMark_0 rfl (lv_at hl 0 rfl) ?_
  refine g_get hx hb hts i_MB hown hK.1 hP fB rfl 4 (by decide) (hts _ k_72) (fun _ h9 => h9) rfl d_MB_firstSoughtAfterMark_1 ?_
  refine lv_iconst (v := 1) hx hb d_MB_firstSoughtAfterMark_4 (by decide) ?_
  refine lv_iadd hx hb d_MB_firstSoughtAfterMark_5 ?_
  rw [show nI (kMk σ) - 1 + 1 = nI (kMk σ) from Int32.sub_add_cancel _ _] 
  refine lv_istore_n (lv' := [(3, .int (nI (kMk σ))), (0, .ref h), (1, .int (nI mk)), (2, .int (nI mt))]) hx hb d_MB_firstSoughtAfterMark_6 rfl hl (by decide) rfl (fun ls hl => ?_)
  obtain ⟨i, hi0⟩ : ∃ z : Nat, z = kMk σ := ⟨_, rfl⟩
  obtain ⟨n, hn⟩ : ∃ z : Nat, i + z = (kIs σ).length := ⟨(kIs σ).length - i, by omega⟩
  replace hl : lv_has ls 4 [(3, .int (nI i)), (0, .ref h), (1, .int (nI mk)), (2, .int (nI mt))] := by rw [hi0]; exact hl
  have hinv : fst' (qAsk σ mk mt) n i = fst' (qAsk σ mk mt) ((kIs σ).length - kMk σ) (kMk σ) := by subst hi0; rw [show n = (kIs σ).length - kMk σ by omega]
  clear hi0
  induction n generalizing i ls with
  | zero =>
    refine lv_iload_n hx hb d_MB_firstSoughtAfterMark_7 rfl (lv_at hl 0 rfl) ?_
    refine lv_aload_n hx hb d_MB_firstSoughtAfterMark_8 rfl (lv_at hl 1 rfl) ?_
    refine g_get hx hb hts i_MB hown hK.1 hP fB rfl 1 (by decide) (hts _ k_69) (fun _ h9 => h9) rfl d_MB_firstSoughtAfterMark_9 ?_
    refine g_ri (g_runV (As := []) (rest := [.int (nI i)]) ⟨hx, hb, hml, hown, hts⟩ (c_AL_size l hLI) st_AL_size k_120 ⟨rfl, rfl, by decide, by decide⟩ rfl (gI.preV hK va_S.rf hP fLI rfl _) rfl hl.1 rfl (Nat.le_of_ble_eq_true rfl) d_MB_firstSoughtAfterMark_12 ⟨by decide, by decide⟩) (fun r1 hr1 => ?_)
    subst hr1
    refine lv_icmp_ge (tgt := 46) hx hb d_MB_firstSoughtAfterMark_15 (by decide) (fun _ => ?_) (fun h9 => absurd (nI_le (show (kIs σ).length ≤ i by omega) (by omega)) h9)
    refine lv_bipush (v := (-10)) hx hb d_MB_firstSoughtAfterMark_46 (by decide) ?_
    exact W.iret hx hb hr (fun t ht _ => ⟨_, rfl, (by first | (rw [← hinv]; rfl) | (rw [← hinv]; simp_all [fst', qAsk]; done)), ht⟩) (fun _ h => nomatch h) d_MB_firstSoughtAfterMark_48
  | succ n ih =>
    refine lv_iload_n hx hb d_MB_firstSoughtAfterMark_7 rfl (lv_at hl 0 rfl) ?_
    refine lv_aload_n hx hb d_MB_firstSoughtAfterMark_8 rfl (lv_at hl 1 rfl) ?_
    refine g_get hx hb hts i_MB hown hK.1 hP fB rfl 1 (by decide) (hts _ k_69) (fun _ h9 => h9) rfl d_MB_firstSoughtAfterMark_9 ?_
    refine g_ri (g_runV (As := []) (rest := [.int (nI i)]) ⟨hx, hb, hml, hown, hts⟩ (c_AL_size l hLI) st_AL_size k_120 ⟨rfl, rfl, by decide, by decide⟩ rfl (gI.preV hK va_S.rf hP fLI rfl _) rfl hl.1 rfl (Nat.le_of_ble_eq_true rfl) d_MB_firstSoughtAfterMark_12 ⟨by decide, by decide⟩) (fun r3 hr3 => ?_)
    subst hr3
    refine lv_icmp_ge (tgt := 46) hx hb d_MB_firstSoughtAfterMark_15 (by decide) (fun h9 => absurd h9 (nI_ge (show i < (kIs σ).length by omega) (by omega))) (fun _ => ?_)
    refine lv_aload_n hx hb d_MB_firstSoughtAfterMark_18 rfl (lv_at hl 1 rfl) ?_
    refine lv_aload_n hx hb d_MB_firstSoughtAfterMark_19 rfl (lv_at hl 1 rfl) ?_
    refine g_get hx hb hts i_MB hown hK.1 hP fB rfl 1 (by decide) (hts _ k_69) (fun _ h9 => h9) rfl d_MB_firstSoughtAfterMark_20 ?_
    refine lv_iload_n hx hb d_MB_firstSoughtAfterMark_23 rfl (lv_at hl 0 rfl) ?_
    refine g_rr (g_runV (As := [.int (nI i)]) (rest := [.ref h]) ⟨hx, hb, hml, hown, hts⟩ (c_AL_get l hLI (i := i) (by omega)) st_AL_get k_222 ⟨rfl, rfl, by decide, by decide⟩ rfl (gI.preV hK va_S.rf hP fLI rfl _) rfl hl.1 rfl (Nat.le_of_ble_eq_true rfl) d_MB_firstSoughtAfterMark_24 ⟨by decide, by decide⟩) ?_
    obtain ⟨t5, ht5⟩ : ∃ z, z = (kIs σ).getD i i0 := ⟨_, rfl⟩
    have ft5 : rIn A i (aI i) t5 := by rw [ht5]; exact hIs i (by omega)
    have bt5 : wfI t5 := by rw [ht5]; exact (w4 i (by omega)).1
    obtain ⟨bt51, bt52⟩ := bt5
    refine va_castY (C := R_In) hx hb hown (hts _ k_263) (hK.2.1 _ (List.mem_of_getElem? (i := 6) rfl)) (va_recv (q0 := 0) hK.1 (hP.one ft5) rfl rfl) d_MB_firstSoughtAfterMark_27 ?_
    refine lv_iload_n hx hb d_MB_firstSoughtAfterMark_30 rfl (lv_at hl 2 rfl) ?_
    refine lv_iload_n hx hb d_MB_firstSoughtAfterMark_31 rfl (lv_at hl 3 rfl) ?_
    refine g_ri (g_runV (As := [.ref ((aI i)), .int (nI mk), .int (nI mt)]) (rest := []) ⟨hx, hb, hml, hown, hts⟩ (c_MB_isSought l hB hw ft5 (by omega) (by omega) (by omega) (by omega)) st_MB_isSought k_365 ⟨rfl, rfl, by decide, by decide⟩ rfl (gI.preV hK va_S.rf hP fB rfl _) rfl hl.1 rfl (Nat.le_of_ble_eq_true rfl) d_MB_firstSoughtAfterMark_32 ⟨by decide, by decide⟩) (fun r6 hr6 => ?_)
    subst hr6
    refine lv_if_eq (tgt := 40) hx hb d_MB_firstSoughtAfterMark_35 (by decide) (fun c7 => ?_) (fun c7 => ?_)
    · skip
      rw [bI_0] at c7
      refine lv_iinc (v := nI (i + 1)) (lv' := [(3, .int (nI (i + 1))), (0, .ref h), (1, .int (nI mk)), (2, .int (nI mt))]) hx hb d_MB_firstSoughtAfterMark_40 hl (k := 0) rfl (nI_1 _) (by decide) rfl (fun ls hl => ?_)
      refine lv_goto (tgt := 7) hx hb d_MB_firstSoughtAfterMark_43 (by decide) ?_
      exact ih _ _ (by omega) (lv_sub hl [0, 1, 2, 3] rfl) (by simp_all [fst', qAsk])
    · skip
      rw [bI_0] at c7
      refine lv_iload_n hx hb d_MB_firstSoughtAfterMark_38 rfl (lv_at hl 0 rfl) ?_
      exact W.iret hx hb hr (fun t ht _ => ⟨_, rfl, (by first | (rw [← hinv]; rfl) | (rw [← hinv]; simp_all [fst', qAsk]; done)), ht⟩) (fun _ h => nomatch h) d_MB_firstSoughtAfterMark_39
set_option maxHeartbeats 4000000 in
set_option maxRecDepth 100000 in
theorem c_MB_count (l : Launch) {D : va_G} {cI cZ cO cL : ClassId} {b e0 : Nat} {A : gW} {h : Nat} {σ : Bk} (hB : rBk cI cZ cO e0 A h σ) (hw : wf σ) (wh : Int32) : Met l y_MB_count (Cond.code y_MB_count b_MB_count 2 (some .int) :: TT) ({ frames := 4, cells := 0, slots := 0, locals := 88 }) (va_Pc [.ref h, .int wh] (gI D [(cI, .int), (cZ, .boolean), (cO, .object "java/lang/Object"), (cL, .long)] b e0 A)) (vp_Si (fun y => y = sCount σ wh)) 0 0 (fun _ => False) := by
  refine Met.ofG (own := R_MB) (by decide +kernel) rfl (Nat.le_of_ble_eq_true rfl) ?_
  intro p e s m below meth c ls hx hb hr hlk hml hown hnm hts hI hl
  have hl : lv_has ls 2 [(0, .ref h), (1, .int wh)] := hl
  obtain ⟨hP, hK⟩ := hI
  obtain ⟨ra, ia, sa, ua, aR, aI, aM, fs, fB, hLR, hLI, fS, hfs, hBu, hRs, hIs⟩ := id hB
  obtain ⟨w1, w2, w3, w4, w5, w6, w7, w8⟩ := id hw
  obtain ⟨moR, qR, capR, efR, fLR, -⟩ := id hLR
  obtain ⟨moI, qI, capI, efI, fLI, -⟩ := id hLI
  obtain ⟨hk, hv, fk, fv, fM, fK, fV, hn3, hms⟩ := id hBu
  refine lv_iload_n hx hb d_MB_count_0 rfl (lv_at hl 1 rfl) ?_
  by_cases c1 : wh = 0
  · refine lv_tableIn (off := 39) (tgt := 40) hx hb d_MB_count_1 (by rw [c1]; decide) (by rw [c1]; decide) (by rw [c1]; rfl) (by decide) ?_
    refine lv_aload_n hx hb d_MB_count_40 rfl (lv_at hl 0 rfl) ?_
    refine g_get hx hb hts i_MB hown hK.1 hP fB rfl 1 (by decide) (hts _ k_69) (fun _ h9 => h9) rfl d_MB_count_41 ?_
    refine g_ri (g_runV (As := []) (rest := []) ⟨hx, hb, hml, hown, hts⟩ (c_AL_size l hLI) st_AL_size k_120 ⟨rfl, rfl, by decide, by decide⟩ rfl (gI.preV hK va_S.rf hP fLI rfl _) rfl hl.1 rfl (Nat.le_of_ble_eq_true rfl) d_MB_count_44 ⟨by decide, by decide⟩) (fun r2 hr2 => ?_)
    subst hr2
    exact W.iret hx hb hr (fun t ht _ => ⟨_, rfl, (by simp_all [sCount]), ht⟩) (fun _ h => nomatch h) d_MB_count_47
  by_cases c3 : wh = 1
  · refine lv_tableIn (off := 47) (tgt := 48) hx hb d_MB_count_1 (by rw [c3]; decide) (by rw [c3]; decide) (by rw [c3]; rfl) (by decide) ?_
    refine lv_aload_n hx hb d_MB_count_48 rfl (lv_at hl 0 rfl) ?_
    refine lv_iconst (v := 0) hx hb d_MB_count_49 (by decide) ?_
    refine g_ri (g_runV (As := [.int 0]) (rest := []) ⟨hx, hb, hml, hown, hts⟩ (c_MB_countLiveInteractions l hB hw 0) st_MB_countLiveInteractions k_429 ⟨rfl, rfl, by decide, by decide⟩ rfl (gI.preV hK va_S.rf hP fB rfl _) rfl hl.1 rfl (Nat.le_of_ble_eq_true rfl) d_MB_count_50 ⟨by decide, by decide⟩) (fun r4 hr4 => ?_)
    subst hr4
    exact W.iret hx hb hr (fun t ht _ => ⟨_, rfl, (by simp_all [sCount]), ht⟩) (fun _ h => nomatch h) d_MB_count_53
  by_cases c5 : wh = 2
  · refine lv_tableIn (off := 53) (tgt := 54) hx hb d_MB_count_1 (by rw [c5]; decide) (by rw [c5]; decide) (by rw [c5]; rfl) (by decide) ?_
    refine lv_aload_n hx hb d_MB_count_54 rfl (lv_at hl 0 rfl) ?_
    refine lv_iconst (v := 1) hx hb d_MB_count_55 (by decide) ?_
    refine g_ri (g_runV (As := [.int 1]) (rest := []) ⟨hx, hb, hml, hown, hts⟩ (c_MB_countLiveInteractions l hB hw 1) st_MB_countLiveInteractions k_429 ⟨rfl, rfl, by decide, by decide⟩ rfl (gI.preV hK va_S.rf hP fB rfl _) rfl hl.1 rfl (Nat.le_of_ble_eq_true rfl) d_MB_count_56 ⟨by decide, by decide⟩) (fun r6 hr6 => ?_)
    subst hr6
    exact W.iret hx hb hr (fun t ht _ => ⟨_, rfl, (by simp_all [sCount]), ht⟩) (fun _ h => nomatch h) d_MB_count_59
  by_cases c7 : wh = 3
  · refine lv_tableIn (off := 59) (tgt := 60) hx hb d_MB_count_1 (by rw [c7]; decide) (by rw [c7]; decide) (by rw [c7]; rfl) (by decide) ?_
    refine lv_aload_n hx hb d_MB_count_60 rfl (lv_at hl 0 rfl) ?_
    refine g_get hx hb hts i_MB hown hK.1 hP fB rfl 0 (by decide) (hts _ k_68) (fun _ h9 => h9) rfl d_MB_count_61 ?_
    refine g_ri (g_runV (As := []) (rest := []) ⟨hx, hb, hml, hown, hts⟩ (c_AL_size l hLR) st_AL_size k_120 ⟨rfl, rfl, by decide, by decide⟩ rfl (gI.preV hK va_S.rf hP fLR rfl _) rfl hl.1 rfl (Nat.le_of_ble_eq_true rfl) d_MB_count_64 ⟨by decide, by decide⟩) (fun r8 hr8 => ?_)
    subst hr8
    exact W.iret hx hb hr (fun t ht _ => ⟨_, rfl, (by simp_all [sCount]), ht⟩) (fun _ h => nomatch h) d_MB_count_67
  by_cases c9 : wh = 4
  · refine lv_tableIn (off := 67) (tgt := 68) hx hb d_MB_count_1 (by rw [c9]; decide) (by rw [c9]; decide) (by rw [c9]; rfl) (by decide) ?_
    refine lv_aload_n hx hb d_MB_count_68 rfl (lv_at hl 0 rfl) ?_
    refine g_ri (g_runV (As := []) (rest := []) ⟨hx, hb, hml, hown, hts⟩ (c_MB_countLiveRules l hB hw) st_MB_countLiveRules k_433 ⟨rfl, rfl, by decide, by decide⟩ rfl (gI.preV hK va_S.rf hP fB rfl _) rfl hl.1 rfl (Nat.le_of_ble_eq_true rfl) d_MB_count_69 ⟨by decide, by decide⟩) (fun r10 hr10 => ?_)
    subst hr10
    exact W.iret hx hb hr (fun t ht _ => ⟨_, rfl, (by simp_all [sCount]), ht⟩) (fun _ h => nomatch h) d_MB_count_72
  by_cases c11 : wh = 5
  · refine lv_tableIn (off := 72) (tgt := 73) hx hb d_MB_count_1 (by rw [c11]; decide) (by rw [c11]; decide) (by rw [c11]; rfl) (by decide) ?_
    refine lv_aload_n hx hb d_MB_count_73 rfl (lv_at hl 0 rfl) ?_
    refine g_get hx hb hts i_MB hown hK.1 hP fB rfl 3 (by decide) (hts _ k_71) (fun _ h9 => h9) rfl d_MB_count_74 ?_
    refine g_get hx hb hts i_Ma hown hK.1 hP fM rfl 2 (by decide) (hts _ k_58) (fun _ h9 => h9) rfl d_MB_count_77 ?_
    exact W.iret hx hb hr (fun t ht _ => ⟨_, rfl, (by simp_all [sCount]), ht⟩) (fun _ h => nomatch h) d_MB_count_80
  refine lv_tableOut (tgt := 81) hx hb d_MB_count_1 (by have q0 := lv_neT c1 (show (0 : Int32).toInt = 0 by decide); have q1 := lv_neT c3 (show (1 : Int32).toInt = 1 by decide); have q2 := lv_neT c5 (show (2 : Int32).toInt = 2 by decide); have q3 := lv_neT c7 (show (3 : Int32).toInt = 3 by decide); have q4 := lv_neT c9 (show (4 : Int32).toInt = 4 by decide); have q5 := lv_neT c11 (show (5 : Int32).toInt = 5 by decide); omega) (by decide) ?_
  refine lv_iconst (v := (-1)) hx hb d_MB_count_81 (by decide) ?_
  exact W.iret hx hb hr (fun t ht _ => ⟨_, rfl, (by simp_all [sCount]), ht⟩) (fun _ h => nomatch h) d_MB_count_82
end
section
/-! Frames by names, and how the parts of the picture stay. -/
/-- only names of the kinds ks with the number i have changed -/
def gF (ks : List Nat) (i : Nat) (A A' : gW) : Prop := ∀ k : gN, ¬ (k.1 ∈ ks ∧ k.2 = i) → A' k = A k
theorem gF.rf {ks : List Nat} {i : Nat} {A : gW} : gF ks i A A := fun _ _ => rfl
theorem gF_U {ks : List Nat} {i n : Nat} {A A1 : gW} {x : Nat × va_E} (h : gF ks i A A1) (hn : n ∈ ks) : gF ks i A (gU A1 (n, i) x) := fun k hk => by
  rw [gU_n (fun e => hk (by rw [e]; exact ⟨hn, rfl⟩))]
  exact h k hk
theorem gF.at {ks : List Nat} {i n j : Nat} {A A' : gW} (h : gF ks i A A') (hn : ks.contains n = false) : A' (n, j) = A (n, j) := h (n, j) (fun e => by simp at hn; exact hn e.1)
theorem gF.at2 {ks : List Nat} {i n j : Nat} {A A' : gW} (h : gF ks i A A') (hn : j ≠ i) : A' (n, j) = A (n, j) := h (n, j) (fun e => hn e.2)
theorem rMa.keep {cI : ClassId} {A A' : gW} {i h : Nat} {ms : List Pr} (hm : rMa cI A i h ms) (e5 : A' (5, i) = A (5, i)) (e6 : A' (6, i) = A (6, i)) (e7 : A' (7, i) = A (7, i)) : rMa cI A' i h ms := by
  obtain ⟨hk, hv, fk, fv, f1, f2, f3, f4⟩ := hm
  exact ⟨hk, hv, fk, fv, e5.trans f1, e6.trans f2, e7.trans f3, f4⟩
theorem rRu.keep {cI : ClassId} {A A' : gW} {i h hm : Nat} {r : Ru} (hr : rRu cI A i h hm r) (e8 : A' (8, i) = A (8, i)) (e9 : A' (9, i) = A (9, i)) (e10 : A' (10, i) = A (10, i)) : rRu cI A' i h hm r := by
  obtain ⟨hk, hv, fk, fv, f1, f2, f3, f4⟩ := hr
  exact ⟨hk, hv, fk, fv, e8.trans f1, e9.trans f2, e10.trans f3, f4⟩
theorem rIn.keep {A A' : gW} {i h : Nat} {t : It} (hi : rIn A i h t) (e : A' (11, i) = A (11, i)) : rIn A' i h t := e.trans hi
theorem rAL.keep {cO : ClassId} {e0 : Nat} {A A' : gW} {w kk ci h n : Nat} {ad : Nat → Nat} (hL : rAL cO e0 A w kk ci h n ad) (e1 : A' (1, w) = A (1, w)) (e2 : A' (2, w) = A (2, w)) (e3 : A' (3, 0) = A (3, 0)) (ek : ∀ i, i < n → ∀ a fs, A (kk, i) = some (a, .inr (ci, fs)) → ∃ fs', A' (kk, i) = some (a, .inr (ci, fs'))) : rAL cO e0 A' w kk ci h n ad := by
  obtain ⟨mo, q, cap, f, f1, f2, f3, f4⟩ := hL
  refine ⟨mo, q, cap, f, e1.trans f1, ?_, e3.trans f3, fun i hi => ?_⟩
  · rcases f2 with h | ⟨g1, g2⟩
    · exact Or.inl h
    · exact Or.inr ⟨e2.trans g1, g2⟩
  · obtain ⟨fs, hfs⟩ := f4 i hi
    exact ek i hi _ _ hfs
theorem rAL.keep' {cO : ClassId} {e0 : Nat} {A A' : gW} {w kk ci h n : Nat} {ad : Nat → Nat} (hL : rAL cO e0 A w kk ci h n ad) (e1 : A' (1, w) = A (1, w)) (e2 : A' (2, w) = A (2, w)) (e3 : A' (3, 0) = A (3, 0)) (ek : ∀ i, i < n → A' (kk, i) = A (kk, i)) : rAL cO e0 A' w kk ci h n ad :=
  hL.keep e1 e2 e3 (fun i hi a fs h => ⟨fs, (ek i hi).trans h⟩)
theorem getD_l {α : Type} {l : List α} {x d : α} {j : Nat} (h : j < l.length) : (l ++ [x]).getD j d = l.getD j d := by
  simp [List.getD_eq_getElem?_getD, List.getElem?_append_left h]
theorem getD_r {α : Type} {l : List α} {x d : α} : (l ++ [x]).getD l.length d = x := by
  simp [List.getD_eq_getElem?_getD]
theorem snocA {fk fv : Nat → Int32} {l : List Pr} {k v : Int32} {j : Nat} (h : ∀ j, j < l.length → fk j = (l.getD j (0, 0)).1 ∧ fv j = (l.getD j (0, 0)).2) (hj : j < (l ++ [(k, v)]).length) : upd fk l.length k j = ((l ++ [(k, v)]).getD j (0, 0)).1 ∧ upd fv l.length v j = ((l ++ [(k, v)]).getD j (0, 0)).2 := by
  by_cases e : j = l.length
  · subst e
    rw [getD_r, pk_us, pk_us]
    exact ⟨rfl, rfl⟩
  · have hl : j < l.length := by simp at hj; omega
    rw [getD_l hl, pk_un e, pk_un e]
    exact h j hl
theorem len1 {α : Type} (l : List α) (x : α) : nI (l ++ [x]).length = nI l.length + 1 := by rw [nI_1]; simp
/-- arguments that aren't taken count as 0 -/
def cut (mt : Nat) (x : X3) : X3 := (if 0 < mt % 4 then x.1 else 0, if 1 < mt % 4 then x.2.1 else 0, if 2 < mt % 4 then x.2.2 else 0)
end
section
set_option maxHeartbeats 4000000 in
set_option maxRecDepth 100000 in
theorem c_Ma_init (l : Launch) {D : va_G} {cI cZ cO cL : ClassId} {b e0 : Nat} {A : gW} {i h : Nat} (f0 : A (5, i) = some (h, .inr (1, [.null, .null, .int 0]))) : Met l y_Ma_init (Cond.code y_Ma_init b_Ma_init 1 none :: TT) ({ frames := 1, cells := 2, slots := 6, locals := 12 }) (va_Pc [.ref h] (gI D [(cI, .int), (cZ, .boolean), (cO, .object "java/lang/Object"), (cL, .long)] b e0 A)) (va_Qv (fun A2 : gW => rMa cI A2 i h [] ∧ gF [5, 6, 7] i A A2) (fun A2 t => gP D classes b A2 t.heap) (fun q => b ≤ q)) 2 6 (fun q => b ≤ q) := by
  refine Met.ofG (own := R_Ma) (by decide +kernel) rfl (Nat.le_of_ble_eq_true rfl) ?_
  intro p e s m below meth c ls hx hb hr hlk hml hown hnm hts hI hl
  have hl : lv_has ls 1 [(0, .ref h)] := hl
  have hS : gS b s.heap s.heap [] := va_S.rf
  obtain ⟨hP, hK⟩ := hI
  refine lv_aload_n hx hb d_Ma_init_0 rfl (lv_at hl 0 rfl) ?_
  refine W.objInit hx hb hown (hts _ k_54) (hts _ k_21) (hts _ k_22) rfl (by rw [hml]; exact hl.1) rfl d_Ma_init_1 (Nat.le_of_ble_eq_true rfl) (Nat.le_of_ble_eq_true rfl) ?_
  refine W.eq (g2 := F0 m 4 ls []) rfl ?_
  refine lv_aload_n hx hb d_Ma_init_4 rfl (lv_at hl 0 rfl) ?_
  refine lv_iconst (v := 3) hx hb d_Ma_init_5 (by decide) ?_
  refine g_newa (atype := .int) (a0 := (3, .inl (fun _ => 0))) (N' := 3) hx hb (hts _ k_67) rfl hK.1 hP hS (6, i) (hK.1.2 0 _ rfl).2 rfl (by decide) (by decide) (by decide) (by decide) (by decide) d_Ma_init_6 (fun q1 H hP hS => ?_)
  refine W.widen (k := 1) (n := 3) (by decide) (by decide) ?_
  obtain ⟨A2, eA2⟩ : ∃ z, z = gU A (6, i) (q1, .inl (cI, 3, .inl (fun _ => 0))) := ⟨_, rfl⟩
  replace hP : gP D classes b A2 H := by rw [eA2]; exact hP
  have f3 : A2 (5, i) = some (h, .inr (1, [.null, .null, .int 0])) := (by rw [eA2]; exact gU_n (gne (show (5 : Nat) ≠ 6 by decide)) : A2 (5, i) = A (5, i)).trans f0
  have f4 : A2 (6, i) = some (q1, .inl (cI, 3, .inl (fun _ => 0))) := by rw [eA2]; exact gU_s
  have gA2 : gF [5, 6, 7] i A A2 := by rw [eA2]; exact gF_U gF.rf (by decide)
  refine g_putF (ty := (.array .int)) hx hb hts i_Ma t_Ma t_Ma_ok n_Ma hown hK.1 hP hS f3 rfl 0 (by decide) (hts _ k_55) (fun _ h9 => h9) rfl hnm rfl (by decide +kernel) rfl rfl (Nat.le_of_ble_eq_true rfl) d_Ma_init_8 (fun H locs hP hS => ?_)
  obtain ⟨A5, eA5⟩ : ∃ z, z = gU A2 (5, i) (h, .inr (1, [.ref q1, .null, .int 0])) := ⟨_, rfl⟩
  replace hP : gP D classes b A5 H := by rw [eA5]; exact hP
  have f6 : A5 (6, i) = some (q1, .inl (cI, 3, .inl (fun _ => 0))) := (by rw [eA5]; exact gU_n (gne (show (6 : Nat) ≠ 5 by decide)) : A5 (6, i) = A2 (6, i)).trans f4
  have f7 : A5 (5, i) = some (h, .inr (1, [.ref q1, .null, .int 0])) := by rw [eA5]; exact gU_s
  have gA5 : gF [5, 6, 7] i A A5 := by rw [eA5]; exact gF_U gA2 (by decide)
  refine lv_aload_n hx hb d_Ma_init_11 rfl (lv_at hl 0 rfl) ?_
  refine lv_iconst (v := 3) hx hb d_Ma_init_12 (by decide) ?_
  refine g_newa (atype := .int) (a0 := (3, .inl (fun _ => 0))) (N' := 3) hx hb (hts _ k_67) rfl hK.1 hP hS (7, i) (hK.1.2 0 _ rfl).2 rfl (by decide) (by decide) (by decide) (by decide) (by decide) d_Ma_init_13 (fun q8 H hP hS => ?_)
  refine W.widen (k := 2) (n := 6) (by decide) (by decide) ?_
  obtain ⟨A9, eA9⟩ : ∃ z, z = gU A5 (7, i) (q8, .inl (cI, 3, .inl (fun _ => 0))) := ⟨_, rfl⟩
  replace hP : gP D classes b A9 H := by rw [eA9]; exact hP
  have f10 : A9 (5, i) = some (h, .inr (1, [.ref q1, .null, .int 0])) := (by rw [eA9]; exact gU_n (gne (show (5 : Nat) ≠ 7 by decide)) : A9 (5, i) = A5 (5, i)).trans f7
  have f11 : A9 (6, i) = some (q1, .inl (cI, 3, .inl (fun _ => 0))) := (by rw [eA9]; exact gU_n (gne (show (6 : Nat) ≠ 7 by decide)) : A9 (6, i) = A5 (6, i)).trans f6
  have f12 : A9 (7, i) = some (q8, .inl (cI, 3, .inl (fun _ => 0))) := by rw [eA9]; exact gU_s
  have gA9 : gF [5, 6, 7] i A A9 := by rw [eA9]; exact gF_U gA5 (by decide)
  refine g_putF (ty := (.array .int)) hx hb hts i_Ma t_Ma t_Ma_ok n_Ma hown hK.1 hP hS f10 rfl 1 (by decide) (hts _ k_56) (fun _ h9 => h9) rfl hnm rfl (by decide +kernel) rfl rfl (Nat.le_of_ble_eq_true rfl) d_Ma_init_15 (fun H locs hP hS => ?_)
  obtain ⟨A13, eA13⟩ : ∃ z, z = gU A9 (5, i) (h, .inr (1, [.ref q1, .ref q8, .int 0])) := ⟨_, rfl⟩
  replace hP : gP D classes b A13 H := by rw [eA13]; exact hP
  have f14 : A13 (6, i) = some (q1, .inl (cI, 3, .inl (fun _ => 0))) := (by rw [eA13]; exact gU_n (gne (show (6 : Nat) ≠ 5 by decide)) : A13 (6, i) = A9 (6, i)).trans f11
  have f15 : A13 (7, i) = some (q8, .inl (cI, 3, .inl (fun _ => 0))) := (by rw [eA13]; exact gU_n (gne (show (7 : Nat) ≠ 5 by decide)) : A13 (7, i) = A9 (7, i)).trans f12
  have f16 : A13 (5, i) = some (h, .inr (1, [.ref q1, .ref q8, .int 0])) := by rw [eA13]; exact gU_s
  have gA13 : gF [5, 6, 7] i A A13 := by rw [eA13]; exact gF_U gA9 (by decide)
  refine lv_aload_n hx hb d_Ma_init_18 rfl (lv_at hl 0 rfl) ?_
  refine lv_iconst (v := 0) hx hb d_Ma_init_19 (by decide) ?_
  refine g_put (ty := .int) hx hb hts i_Ma t_Ma t_Ma_ok n_Ma hown hK.1 hP hS f16 rfl 2 (by decide) (hts _ k_57) (fun _ h9 => h9) rfl (by decide +kernel) rfl rfl (Nat.le_of_ble_eq_true rfl) d_Ma_init_20 (fun H locs hP hS => ?_)
  obtain ⟨A17, eA17⟩ : ∃ z, z = gU A13 (5, i) (h, .inr (1, [.ref q1, .ref q8, .int 0])) := ⟨_, rfl⟩
  replace hP : gP D classes b A17 H := by rw [eA17]; exact hP
  have f18 : A17 (6, i) = some (q1, .inl (cI, 3, .inl (fun _ => 0))) := (by rw [eA17]; exact gU_n (gne (show (6 : Nat) ≠ 5 by decide)) : A17 (6, i) = A13 (6, i)).trans f14
  have f19 : A17 (7, i) = some (q8, .inl (cI, 3, .inl (fun _ => 0))) := (by rw [eA17]; exact gU_n (gne (show (7 : Nat) ≠ 5 by decide)) : A17 (7, i) = A13 (7, i)).trans f15
  have f20 : A17 (5, i) = some (h, .inr (1, [.ref q1, .ref q8, .int 0])) := by rw [eA17]; exact gU_s
  have gA17 : gF [5, 6, 7] i A A17 := by rw [eA17]; exact gF_U gA13 (by decide)
  refine W.widen (k := 2) (n := 6) (by decide) (by decide) ?_
  exact W.vret hx hb hr (fun t ht _ => ⟨⟨A17, rfl, ⟨⟨q1, q8, _, _, f20, f18, f19, by decide, fun j hj => absurd hj (Nat.not_lt_zero j)⟩, gA17⟩, show gP D classes b A17 t.heap by rw [ht]; exact hP⟩, hS.F ht⟩) hS.2.2 d_Ma_init_23
set_option maxHeartbeats 4000000 in
set_option maxRecDepth 100000 in
theorem c_Ma_add (l : Launch) {D : va_G} {cI cZ cO cL : ClassId} {b e0 : Nat} {A : gW} {i h : Nat} {ms : List Pr} (hm : rMa cI A i h ms) (h3 : ms.length < 3) (k v : Int32) : Met l y_Ma_add (Cond.code y_Ma_add b_Ma_add 3 none :: TT) ({ frames := 0, cells := 0, slots := 0, locals := 0 }) (va_Pc [.ref h, .int k, .int v] (gI D [(cI, .int), (cZ, .boolean), (cO, .object "java/lang/Object"), (cL, .long)] b e0 A)) (va_Qv (fun A2 : gW => rMa cI A2 i h (ms ++ [(k, v)]) ∧ gF [5, 6, 7] i A A2) (fun A2 t => gP D classes b A2 t.heap) (fun q => b ≤ q)) 0 0 (fun q => b ≤ q) := by
  refine Met.ofG (own := R_Ma) (by decide +kernel) rfl (Nat.le_of_ble_eq_true rfl) ?_
  intro p e s m below meth c ls hx hb hr hlk hml hown hnm hts hI hl
  have hl : lv_has ls 3 [(0, .ref h), (1, .int k), (2, .int v)] := hl
  have hS : gS b s.heap s.heap [] := va_S.rf
  obtain ⟨hP, hK⟩ := hI
  obtain ⟨hk, hv, fk, fv, fM, fK, fV, hn3, hms⟩ := id hm
  refine lv_aload_n hx hb d_Ma_add_0 rfl (lv_at hl 0 rfl) ?_
  refine g_get hx hb hts i_Ma hown hK.1 hP fM rfl 2 (by decide) (hts _ k_57) (fun _ h9 => h9) rfl d_Ma_add_1 ?_
  refine lv_iconst (v := 3) hx hb d_Ma_add_4 (by decide) ?_
  refine lv_icmp_ge (tgt := 38) hx hb d_Ma_add_5 (by decide) (fun h9 => absurd h9 (nI_ge (show ms.length < 3 by omega) (by decide))) (fun _ => ?_)
  refine lv_aload_n hx hb d_Ma_add_8 rfl (lv_at hl 0 rfl) ?_
  refine g_get hx hb hts i_Ma hown hK.1 hP fM rfl 0 (by decide) (hts _ k_55) (fun _ h9 => h9) rfl d_Ma_add_9 ?_
  refine lv_aload_n hx hb d_Ma_add_12 rfl (lv_at hl 0 rfl) ?_
  refine g_get hx hb hts i_Ma hown hK.1 hP fM rfl 2 (by decide) (hts _ k_57) (fun _ h9 => h9) rfl d_Ma_add_13 ?_
  refine lv_iload_n hx hb d_Ma_add_16 rfl (lv_at hl 1 rfl) ?_
  refine g_iast (k := ms.length) hx hb hK.1 hP hS 0 fK rfl (vp_in_nI (show ms.length < 3 by omega) (by omega)) (nI_clamp (show ms.length < 2 ^ 31 by omega)) d_Ma_add_17 (fun H locs hP hS => ?_)
  obtain ⟨A2, eA2⟩ : ∃ z, z = gU A (6, i) (hk, .inl (cI, 3, .inl (upd fk (ms.length) (k)))) := ⟨_, rfl⟩
  replace hP : gP D classes b A2 H := by rw [eA2]; exact hP
  have f3 : A2 (5, i) = some (h, .inr (1, [.ref hk, .ref hv, .int (nI ms.length)])) := (by rw [eA2]; exact gU_n (gne (show (5 : Nat) ≠ 6 by decide)) : A2 (5, i) = A (5, i)).trans fM
  have f4 : A2 (7, i) = some (hv, .inl (cI, 3, .inl fv)) := (by rw [eA2]; exact gU_n (gne (show (7 : Nat) ≠ 6 by decide)) : A2 (7, i) = A (7, i)).trans fV
  have f5 : A2 (6, i) = some (hk, .inl (cI, 3, .inl (upd fk (ms.length) (k)))) := by rw [eA2]; exact gU_s
  have gA2 : gF [5, 6, 7] i A A2 := by rw [eA2]; exact gF_U gF.rf (by decide)
  refine lv_aload_n hx hb d_Ma_add_18 rfl (lv_at hl 0 rfl) ?_
  refine g_get hx hb hts i_Ma hown hK.1 hP f3 rfl 1 (by decide) (hts _ k_56) (fun _ h9 => h9) rfl d_Ma_add_19 ?_
  refine lv_aload_n hx hb d_Ma_add_22 rfl (lv_at hl 0 rfl) ?_
  refine g_get hx hb hts i_Ma hown hK.1 hP f3 rfl 2 (by decide) (hts _ k_57) (fun _ h9 => h9) rfl d_Ma_add_23 ?_
  refine lv_iload_n hx hb d_Ma_add_26 rfl (lv_at hl 2 rfl) ?_
  refine g_iast (k := ms.length) hx hb hK.1 hP hS 0 f4 rfl (vp_in_nI (show ms.length < 3 by omega) (by omega)) (nI_clamp (show ms.length < 2 ^ 31 by omega)) d_Ma_add_27 (fun H locs hP hS => ?_)
  obtain ⟨A6, eA6⟩ : ∃ z, z = gU A2 (7, i) (hv, .inl (cI, 3, .inl (upd fv (ms.length) (v)))) := ⟨_, rfl⟩
  replace hP : gP D classes b A6 H := by rw [eA6]; exact hP
  have f7 : A6 (5, i) = some (h, .inr (1, [.ref hk, .ref hv, .int (nI ms.length)])) := (by rw [eA6]; exact gU_n (gne (show (5 : Nat) ≠ 7 by decide)) : A6 (5, i) = A2 (5, i)).trans f3
  have f8 : A6 (6, i) = some (hk, .inl (cI, 3, .inl (upd fk (ms.length) (k)))) := (by rw [eA6]; exact gU_n (gne (show (6 : Nat) ≠ 7 by decide)) : A6 (6, i) = A2 (6, i)).trans f5
  have f9 : A6 (7, i) = some (hv, .inl (cI, 3, .inl (upd fv (ms.length) (v)))) := by rw [eA6]; exact gU_s
  have gA6 : gF [5, 6, 7] i A A6 := by rw [eA6]; exact gF_U gA2 (by decide)
  refine lv_aload_n hx hb d_Ma_add_28 rfl (lv_at hl 0 rfl) ?_
  refine lv_dup hx hb d_Ma_add_29 rfl ?_
  refine g_get hx hb hts i_Ma hown hK.1 hP f7 rfl 2 (by decide) (hts _ k_57) (fun _ h9 => h9) rfl d_Ma_add_30 ?_
  refine lv_iconst (v := 1) hx hb d_Ma_add_33 (by decide) ?_
  refine lv_iadd hx hb d_Ma_add_34 ?_
  refine g_put (ty := .int) hx hb hts i_Ma t_Ma t_Ma_ok n_Ma hown hK.1 hP hS f7 rfl 2 (by decide) (hts _ k_57) (fun _ h9 => h9) rfl (by decide +kernel) rfl rfl (Nat.le_of_ble_eq_true rfl) d_Ma_add_35 (fun H locs hP hS => ?_)
  obtain ⟨A10, eA10⟩ : ∃ z, z = gU A6 (5, i) (h, .inr (1, [.ref hk, .ref hv, .int ((nI ms.length) + 1)])) := ⟨_, rfl⟩
  replace hP : gP D classes b A10 H := by rw [eA10]; exact hP
  have f11 : A10 (6, i) = some (hk, .inl (cI, 3, .inl (upd fk (ms.length) (k)))) := (by rw [eA10]; exact gU_n (gne (show (6 : Nat) ≠ 5 by decide)) : A10 (6, i) = A6 (6, i)).trans f8
  have f12 : A10 (7, i) = some (hv, .inl (cI, 3, .inl (upd fv (ms.length) (v)))) := (by rw [eA10]; exact gU_n (gne (show (7 : Nat) ≠ 5 by decide)) : A10 (7, i) = A6 (7, i)).trans f9
  have f13 : A10 (5, i) = some (h, .inr (1, [.ref hk, .ref hv, .int ((nI ms.length) + 1)])) := by rw [eA10]; exact gU_s
  have gA10 : gF [5, 6, 7] i A A10 := by rw [eA10]; exact gF_U gA6 (by decide)
  refine W.widen (k := 0) (n := 0) (by decide) (by decide) ?_
  exact W.vret hx hb hr (fun t ht _ => ⟨⟨A10, rfl, ⟨⟨hk, hv, _, _, (by rw [len1]; exact f13), f11, f12, by simp; omega, fun j hj => snocA hms hj⟩, gA10⟩, show gP D classes b A10 t.heap by rw [ht]; exact hP⟩, hS.F ht⟩) hS.2.2 d_Ma_add_38
set_option maxHeartbeats 4000000 in
set_option maxRecDepth 100000 in
theorem c_Ma_clear (l : Launch) {D : va_G} {cI cZ cO cL : ClassId} {b e0 : Nat} {A : gW} {i h : Nat} {ms : List Pr} (hm : rMa cI A i h ms) : Met l y_Ma_clear (Cond.code y_Ma_clear b_Ma_clear 1 none :: TT) ({ frames := 0, cells := 0, slots := 0, locals := 0 }) (va_Pc [.ref h] (gI D [(cI, .int), (cZ, .boolean), (cO, .object "java/lang/Object"), (cL, .long)] b e0 A)) (va_Qv (fun A2 : gW => rMa cI A2 i h [] ∧ gF [5, 6, 7] i A A2) (fun A2 t => gP D classes b A2 t.heap) (fun q => b ≤ q)) 0 0 (fun q => b ≤ q) := by
  refine Met.ofG (own := R_Ma) (by decide +kernel) rfl (Nat.le_of_ble_eq_true rfl) ?_
  intro p e s m below meth c ls hx hb hr hlk hml hown hnm hts hI hl
  have hl : lv_has ls 1 [(0, .ref h)] := hl
  have hS : gS b s.heap s.heap [] := va_S.rf
  obtain ⟨hP, hK⟩ := hI
  obtain ⟨hk, hv, fk, fv, fM, fK, fV, hn3, hms⟩ := id hm
  refine lv_aload_n hx hb d_Ma_clear_0 rfl (lv_at hl 0 rfl) ?_
  refine lv_iconst (v := 0) hx hb d_Ma_clear_1 (by decide) ?_
  refine g_put (ty := .int) hx hb hts i_Ma t_Ma t_Ma_ok n_Ma hown hK.1 hP hS fM rfl 2 (by decide) (hts _ k_57) (fun _ h9 => h9) rfl (by decide +kernel) rfl rfl (Nat.le_of_ble_eq_true rfl) d_Ma_clear_2 (fun H locs hP hS => ?_)
  obtain ⟨A1, eA1⟩ : ∃ z, z = gU A (5, i) (h, .inr (1, [.ref hk, .ref hv, .int 0])) := ⟨_, rfl⟩
  replace hP : gP D classes b A1 H := by rw [eA1]; exact hP
  have f2 : A1 (6, i) = some (hk, .inl (cI, 3, .inl fk)) := (by rw [eA1]; exact gU_n (gne (show (6 : Nat) ≠ 5 by decide)) : A1 (6, i) = A (6, i)).trans fK
  have f3 : A1 (7, i) = some (hv, .inl (cI, 3, .inl fv)) := (by rw [eA1]; exact gU_n (gne (show (7 : Nat) ≠ 5 by decide)) : A1 (7, i) = A (7, i)).trans fV
  have f4 : A1 (5, i) = some (h, .inr (1, [.ref hk, .ref hv, .int 0])) := by rw [eA1]; exact gU_s
  have gA1 : gF [5, 6, 7] i A A1 := by rw [eA1]; exact gF_U gF.rf (by decide)
  refine W.widen (k := 0) (n := 0) (by decide) (by decide) ?_
  exact W.vret hx hb hr (fun t ht _ => ⟨⟨A1, rfl, ⟨⟨hk, hv, fk, fv, f4, f2, f3, by decide, fun j hj => absurd hj (Nat.not_lt_zero j)⟩, gA1⟩, show gP D classes b A1 t.heap by rw [ht]; exact hP⟩, hS.F ht⟩) hS.2.2 d_Ma_clear_5
set_option maxHeartbeats 4000000 in
set_option maxRecDepth 100000 in
theorem c_Ru_init (l : Launch) {D : va_G} {cI cZ cO cL : ClassId} {b e0 : Nat} {A : gW} {i h : Nat} (f0 : A (8, i) = some (h, .inr (2, [.int 0, .int 0, .null, .null, .null, .int 0, .int 0, .int 0]))) (mk mt hm : Nat) (ms : List Pr) : Met l y_Ru_init (Cond.code y_Ru_init b_Ru_init 4 none :: TT) ({ frames := 1, cells := 2, slots := 8, locals := 12 }) (va_Pc [.ref h, .int (nI mk), .int (nI mt), .ref hm] (gI D [(cI, .int), (cZ, .boolean), (cO, .object "java/lang/Object"), (cL, .long)] b e0 A)) (va_Qv (fun A2 : gW => rRu cI A2 i h hm (mk, mt, ms, [], 0, true) ∧ gF [8, 9, 10] i A A2) (fun A2 t => gP D classes b A2 t.heap) (fun q => b ≤ q)) 2 8 (fun q => b ≤ q) := by
  refine Met.ofG (own := R_Ru) (by decide +kernel) rfl (Nat.le_of_ble_eq_true rfl) ?_
  intro p e s m below meth c ls hx hb hr hlk hml hown hnm hts hI hl
  have hl : lv_has ls 4 [(0, .ref h), (1, .int (nI mk)), (2, .int (nI mt)), (3, .ref hm)] := hl
  have hS : gS b s.heap s.heap [] := va_S.rf
  obtain ⟨hP, hK⟩ := hI
  refine lv_aload_n hx hb d_Ru_init_0 rfl (lv_at hl 0 rfl) ?_
  refine W.objInit hx hb hown (hts _ k_129) (hts _ k_21) (hts _ k_22) rfl (by rw [hml]; exact hl.1) rfl d_Ru_init_1 (Nat.le_of_ble_eq_true rfl) (Nat.le_of_ble_eq_true rfl) ?_
  refine W.eq (g2 := F0 m 4 ls []) rfl ?_
  refine lv_aload_n hx hb d_Ru_init_4 rfl (lv_at hl 0 rfl) ?_
  refine lv_iconst (v := 4) hx hb d_Ru_init_5 (by decide) ?_
  refine g_newa (atype := .int) (a0 := (4, .inl (fun _ => 0))) (N' := 4) hx hb (hts _ k_67) rfl hK.1 hP hS (9, i) (hK.1.2 0 _ rfl).2 rfl (by decide) (by decide) (by decide) (by decide) (by decide) d_Ru_init_6 (fun q1 H hP hS => ?_)
  refine W.widen (k := 1) (n := 4) (by decide) (by decide) ?_
  obtain ⟨A2, eA2⟩ : ∃ z, z = gU A (9, i) (q1, .inl (cI, 4, .inl (fun _ => 0))) := ⟨_, rfl⟩
  replace hP : gP D classes b A2 H := by rw [eA2]; exact hP
  have f3 : A2 (8, i) = some (h, .inr (2, [.int 0, .int 0, .null, .null, .null, .int 0, .int 0, .int 0])) := (by rw [eA2]; exact gU_n (gne (show (8 : Nat) ≠ 9 by decide)) : A2 (8, i) = A (8, i)).trans f0
  have f4 : A2 (9, i) = some (q1, .inl (cI, 4, .inl (fun _ => 0))) := by rw [eA2]; exact gU_s
  have gA2 : gF [8, 9, 10] i A A2 := by rw [eA2]; exact gF_U gF.rf (by decide)
  refine g_putF (ty := (.array .int)) hx hb hts i_Ru t_Ru t_Ru_ok n_Ru hown hK.1 hP hS f3 rfl 3 (by decide) (hts _ k_134) (fun _ h9 => h9) rfl hnm rfl (by decide +kernel) rfl rfl (Nat.le_of_ble_eq_true rfl) d_Ru_init_8 (fun H locs hP hS => ?_)
  obtain ⟨A5, eA5⟩ : ∃ z, z = gU A2 (8, i) (h, .inr (2, [.int 0, .int 0, .null, .ref q1, .null, .int 0, .int 0, .int 0])) := ⟨_, rfl⟩
  replace hP : gP D classes b A5 H := by rw [eA5]; exact hP
  have f6 : A5 (9, i) = some (q1, .inl (cI, 4, .inl (fun _ => 0))) := (by rw [eA5]; exact gU_n (gne (show (9 : Nat) ≠ 8 by decide)) : A5 (9, i) = A2 (9, i)).trans f4
  have f7 : A5 (8, i) = some (h, .inr (2, [.int 0, .int 0, .null, .ref q1, .null, .int 0, .int 0, .int 0])) := by rw [eA5]; exact gU_s
  have gA5 : gF [8, 9, 10] i A A5 := by rw [eA5]; exact gF_U gA2 (by decide)
  refine lv_aload_n hx hb d_Ru_init_11 rfl (lv_at hl 0 rfl) ?_
  refine lv_iconst (v := 4) hx hb d_Ru_init_12 (by decide) ?_
  refine g_newa (atype := .int) (a0 := (4, .inl (fun _ => 0))) (N' := 4) hx hb (hts _ k_67) rfl hK.1 hP hS (10, i) (hK.1.2 0 _ rfl).2 rfl (by decide) (by decide) (by decide) (by decide) (by decide) d_Ru_init_13 (fun q8 H hP hS => ?_)
  refine W.widen (k := 2) (n := 8) (by decide) (by decide) ?_
  obtain ⟨A9, eA9⟩ : ∃ z, z = gU A5 (10, i) (q8, .inl (cI, 4, .inl (fun _ => 0))) := ⟨_, rfl⟩
  replace hP : gP D classes b A9 H := by rw [eA9]; exact hP
  have f10 : A9 (8, i) = some (h, .inr (2, [.int 0, .int 0, .null, .ref q1, .null, .int 0, .int 0, .int 0])) := (by rw [eA9]; exact gU_n (gne (show (8 : Nat) ≠ 10 by decide)) : A9 (8, i) = A5 (8, i)).trans f7
  have f11 : A9 (9, i) = some (q1, .inl (cI, 4, .inl (fun _ => 0))) := (by rw [eA9]; exact gU_n (gne (show (9 : Nat) ≠ 10 by decide)) : A9 (9, i) = A5 (9, i)).trans f6
  have f12 : A9 (10, i) = some (q8, .inl (cI, 4, .inl (fun _ => 0))) := by rw [eA9]; exact gU_s
  have gA9 : gF [8, 9, 10] i A A9 := by rw [eA9]; exact gF_U gA5 (by decide)
  refine g_putF (ty := (.array .int)) hx hb hts i_Ru t_Ru t_Ru_ok n_Ru hown hK.1 hP hS f10 rfl 4 (by decide) (hts _ k_136) (fun _ h9 => h9) rfl hnm rfl (by decide +kernel) rfl rfl (Nat.le_of_ble_eq_true rfl) d_Ru_init_15 (fun H locs hP hS => ?_)
  obtain ⟨A13, eA13⟩ : ∃ z, z = gU A9 (8, i) (h, .inr (2, [.int 0, .int 0, .null, .ref q1, .ref q8, .int 0, .int 0, .int 0])) := ⟨_, rfl⟩
  replace hP : gP D classes b A13 H := by rw [eA13]; exact hP
  have f14 : A13 (9, i) = some (q1, .inl (cI, 4, .inl (fun _ => 0))) := (by rw [eA13]; exact gU_n (gne (show (9 : Nat) ≠ 8 by decide)) : A13 (9, i) = A9 (9, i)).trans f11
  have f15 : A13 (10, i) = some (q8, .inl (cI, 4, .inl (fun _ => 0))) := (by rw [eA13]; exact gU_n (gne (show (10 : Nat) ≠ 8 by decide)) : A13 (10, i) = A9 (10, i)).trans f12
  have f16 : A13 (8, i) = some (h, .inr (2, [.int 0, .int 0, .null, .ref q1, .ref q8, .int 0, .int 0, .int 0])) := by rw [eA13]; exact gU_s
  have gA13 : gF [8, 9, 10] i A A13 := by rw [eA13]; exact gF_U gA9 (by decide)
  refine lv_aload_n hx hb d_Ru_init_18 rfl (lv_at hl 0 rfl) ?_
  refine lv_iconst (v := 0) hx hb d_Ru_init_19 (by decide) ?_
  refine g_put (ty := .int) hx hb hts i_Ru t_Ru t_Ru_ok n_Ru hown hK.1 hP hS f16 rfl 5 (by decide) (hts _ k_138) (fun _ h9 => h9) rfl (by decide +kernel) rfl rfl (Nat.le_of_ble_eq_true rfl) d_Ru_init_20 (fun H locs hP hS => ?_)
  obtain ⟨A17, eA17⟩ : ∃ z, z = gU A13 (8, i) (h, .inr (2, [.int 0, .int 0, .null, .ref q1, .ref q8, .int 0, .int 0, .int 0])) := ⟨_, rfl⟩
  replace hP : gP D classes b A17 H := by rw [eA17]; exact hP
  have f18 : A17 (9, i) = some (q1, .inl (cI, 4, .inl (fun _ => 0))) := (by rw [eA17]; exact gU_n (gne (show (9 : Nat) ≠ 8 by decide)) : A17 (9, i) = A13 (9, i)).trans f14
  have f19 : A17 (10, i) = some (q8, .inl (cI, 4, .inl (fun _ => 0))) := (by rw [eA17]; exact gU_n (gne (show (10 : Nat) ≠ 8 by decide)) : A17 (10, i) = A13 (10, i)).trans f15
  have f20 : A17 (8, i) = some (h, .inr (2, [.int 0, .int 0, .null, .ref q1, .ref q8, .int 0, .int 0, .int 0])) := by rw [eA17]; exact gU_s
  have gA17 : gF [8, 9, 10] i A A17 := by rw [eA17]; exact gF_U gA13 (by decide)
  refine lv_aload_n hx hb d_Ru_init_23 rfl (lv_at hl 0 rfl) ?_
  refine lv_iconst (v := 0) hx hb d_Ru_init_24 (by decide) ?_
  refine g_put (ty := .int) hx hb hts i_Ru t_Ru t_Ru_ok n_Ru hown hK.1 hP hS f20 rfl 6 (by decide) (hts _ k_140) (fun _ h9 => h9) rfl (by decide +kernel) rfl rfl (Nat.le_of_ble_eq_true rfl) d_Ru_init_25 (fun H locs hP hS => ?_)
  obtain ⟨A21, eA21⟩ : ∃ z, z = gU A17 (8, i) (h, .inr (2, [.int 0, .int 0, .null, .ref q1, .ref q8, .int 0, .int 0, .int 0])) := ⟨_, rfl⟩
  replace hP : gP D classes b A21 H := by rw [eA21]; exact hP
  have f22 : A21 (9, i) = some (q1, .inl (cI, 4, .inl (fun _ => 0))) := (by rw [eA21]; exact gU_n (gne (show (9 : Nat) ≠ 8 by decide)) : A21 (9, i) = A17 (9, i)).trans f18
  have f23 : A21 (10, i) = some (q8, .inl (cI, 4, .inl (fun _ => 0))) := (by rw [eA21]; exact gU_n (gne (show (10 : Nat) ≠ 8 by decide)) : A21 (10, i) = A17 (10, i)).trans f19
  have f24 : A21 (8, i) = some (h, .inr (2, [.int 0, .int 0, .null, .ref q1, .ref q8, .int 0, .int 0, .int 0])) := by rw [eA21]; exact gU_s
  have gA21 : gF [8, 9, 10] i A A21 := by rw [eA21]; exact gF_U gA17 (by decide)
  refine lv_aload_n hx hb d_Ru_init_28 rfl (lv_at hl 0 rfl) ?_
  refine lv_iconst (v := 1) hx hb d_Ru_init_29 (by decide) ?_
  refine g_put (ty := .boolean) hx hb hts i_Ru t_Ru t_Ru_ok n_Ru hown hK.1 hP hS f24 rfl 7 (by decide) (hts _ k_142) (fun _ h9 => h9) rfl (by decide +kernel) rfl rfl (Nat.le_of_ble_eq_true rfl) d_Ru_init_30 (fun H locs hP hS => ?_)
  obtain ⟨A25, eA25⟩ : ∃ z, z = gU A21 (8, i) (h, .inr (2, [.int 0, .int 0, .null, .ref q1, .ref q8, .int 0, .int 0, .int 1])) := ⟨_, rfl⟩
  replace hP : gP D classes b A25 H := by rw [eA25]; exact hP
  have f26 : A25 (9, i) = some (q1, .inl (cI, 4, .inl (fun _ => 0))) := (by rw [eA25]; exact gU_n (gne (show (9 : Nat) ≠ 8 by decide)) : A25 (9, i) = A21 (9, i)).trans f22
  have f27 : A25 (10, i) = some (q8, .inl (cI, 4, .inl (fun _ => 0))) := (by rw [eA25]; exact gU_n (gne (show (10 : Nat) ≠ 8 by decide)) : A25 (10, i) = A21 (10, i)).trans f23
  have f28 : A25 (8, i) = some (h, .inr (2, [.int 0, .int 0, .null, .ref q1, .ref q8, .int 0, .int 0, .int 1])) := by rw [eA25]; exact gU_s
  have gA25 : gF [8, 9, 10] i A A25 := by rw [eA25]; exact gF_U gA21 (by decide)
  refine lv_aload_n hx hb d_Ru_init_33 rfl (lv_at hl 0 rfl) ?_
  refine lv_iload_n hx hb d_Ru_init_34 rfl (lv_at hl 1 rfl) ?_
  refine g_putF (ty := .int) hx hb hts i_Ru t_Ru t_Ru_ok n_Ru hown hK.1 hP hS f28 rfl 0 (by decide) (hts _ k_130) (fun _ h9 => h9) rfl hnm rfl (by decide +kernel) rfl rfl (Nat.le_of_ble_eq_true rfl) d_Ru_init_35 (fun H locs hP hS => ?_)
  obtain ⟨A29, eA29⟩ : ∃ z, z = gU A25 (8, i) (h, .inr (2, [.int (nI mk), .int 0, .null, .ref q1, .ref q8, .int 0, .int 0, .int 1])) := ⟨_, rfl⟩
  replace hP : gP D classes b A29 H := by rw [eA29]; exact hP
  have f30 : A29 (9, i) = some (q1, .inl (cI, 4, .inl (fun _ => 0))) := (by rw [eA29]; exact gU_n (gne (show (9 : Nat) ≠ 8 by decide)) : A29 (9, i) = A25 (9, i)).trans f26
  have f31 : A29 (10, i) = some (q8, .inl (cI, 4, .inl (fun _ => 0))) := (by rw [eA29]; exact gU_n (gne (show (10 : Nat) ≠ 8 by decide)) : A29 (10, i) = A25 (10, i)).trans f27
  have f32 : A29 (8, i) = some (h, .inr (2, [.int (nI mk), .int 0, .null, .ref q1, .ref q8, .int 0, .int 0, .int 1])) := by rw [eA29]; exact gU_s
  have gA29 : gF [8, 9, 10] i A A29 := by rw [eA29]; exact gF_U gA25 (by decide)
  refine lv_aload_n hx hb d_Ru_init_38 rfl (lv_at hl 0 rfl) ?_
  refine lv_iload_n hx hb d_Ru_init_39 rfl (lv_at hl 2 rfl) ?_
  refine g_putF (ty := .int) hx hb hts i_Ru t_Ru t_Ru_ok n_Ru hown hK.1 hP hS f32 rfl 1 (by decide) (hts _ k_132) (fun _ h9 => h9) rfl hnm rfl (by decide +kernel) rfl rfl (Nat.le_of_ble_eq_true rfl) d_Ru_init_40 (fun H locs hP hS => ?_)
  obtain ⟨A33, eA33⟩ : ∃ z, z = gU A29 (8, i) (h, .inr (2, [.int (nI mk), .int (nI mt), .null, .ref q1, .ref q8, .int 0, .int 0, .int 1])) := ⟨_, rfl⟩
  replace hP : gP D classes b A33 H := by rw [eA33]; exact hP
  have f34 : A33 (9, i) = some (q1, .inl (cI, 4, .inl (fun _ => 0))) := (by rw [eA33]; exact gU_n (gne (show (9 : Nat) ≠ 8 by decide)) : A33 (9, i) = A29 (9, i)).trans f30
  have f35 : A33 (10, i) = some (q8, .inl (cI, 4, .inl (fun _ => 0))) := (by rw [eA33]; exact gU_n (gne (show (10 : Nat) ≠ 8 by decide)) : A33 (10, i) = A29 (10, i)).trans f31
  have f36 : A33 (8, i) = some (h, .inr (2, [.int (nI mk), .int (nI mt), .null, .ref q1, .ref q8, .int 0, .int 0, .int 1])) := by rw [eA33]; exact gU_s
  have gA33 : gF [8, 9, 10] i A A33 := by rw [eA33]; exact gF_U gA29 (by decide)
  refine lv_aload_n hx hb d_Ru_init_43 rfl (lv_at hl 0 rfl) ?_
  refine lv_aload_n hx hb d_Ru_init_44 rfl (lv_at hl 3 rfl) ?_
  refine g_putF (ty := (.object "MockBook$Matchers")) hx hb hts i_Ru t_Ru t_Ru_ok n_Ru hown hK.1 hP hS f36 rfl 2 (by decide) (hts _ k_133) (fun _ h9 => h9) rfl hnm rfl (by decide +kernel) rfl rfl (Nat.le_of_ble_eq_true rfl) d_Ru_init_45 (fun H locs hP hS => ?_)
  obtain ⟨A37, eA37⟩ : ∃ z, z = gU A33 (8, i) (h, .inr (2, [.int (nI mk), .int (nI mt), .ref hm, .ref q1, .ref q8, .int 0, .int 0, .int 1])) := ⟨_, rfl⟩
  replace hP : gP D classes b A37 H := by rw [eA37]; exact hP
  have f38 : A37 (9, i) = some (q1, .inl (cI, 4, .inl (fun _ => 0))) := (by rw [eA37]; exact gU_n (gne (show (9 : Nat) ≠ 8 by decide)) : A37 (9, i) = A33 (9, i)).trans f34
  have f39 : A37 (10, i) = some (q8, .inl (cI, 4, .inl (fun _ => 0))) := (by rw [eA37]; exact gU_n (gne (show (10 : Nat) ≠ 8 by decide)) : A37 (10, i) = A33 (10, i)).trans f35
  have f40 : A37 (8, i) = some (h, .inr (2, [.int (nI mk), .int (nI mt), .ref hm, .ref q1, .ref q8, .int 0, .int 0, .int 1])) := by rw [eA37]; exact gU_s
  have gA37 : gF [8, 9, 10] i A A37 := by rw [eA37]; exact gF_U gA33 (by decide)
  refine W.widen (k := 2) (n := 8) (by decide) (by decide) ?_
  exact W.vret hx hb hr (fun t ht _ => ⟨⟨A37, rfl, ⟨⟨q1, q8, _, _, f40, f38, f39, Nat.zero_le _, fun j hj => by cases j <;> exact ⟨rfl, rfl⟩⟩, gA37⟩, show gP D classes b A37 t.heap by rw [ht]; exact hP⟩, hS.F ht⟩) hS.2.2 d_Ru_init_48
set_option maxHeartbeats 4000000 in
set_option maxRecDepth 100000 in
theorem c_Ru_addAction (l : Launch) {D : va_G} {cI cZ cO cL : ClassId} {b e0 : Nat} {A : gW} {i h hm : Nat} {r : Ru} (hr0 : rRu cI A i h hm r) (h4 : (uAc r).length < 4) (k v : Int32) : Met l y_Ru_addAction (Cond.code y_Ru_addAction b_Ru_addAction 3 none :: TT) ({ frames := 0, cells := 0, slots := 0, locals := 0 }) (va_Pc [.ref h, .int k, .int v] (gI D [(cI, .int), (cZ, .boolean), (cO, .object "java/lang/Object"), (cL, .long)] b e0 A)) (va_Qv (fun A2 : gW => rRu cI A2 i h hm (uMk r, uMt r, uMs r, uAc r ++ [(k, v)], uUs r, uLv r) ∧ gF [8, 9, 10] i A A2) (fun A2 t => gP D classes b A2 t.heap) (fun q => b ≤ q)) 0 0 (fun q => b ≤ q) := by
  refine Met.ofG (own := R_Ru) (by decide +kernel) rfl (Nat.le_of_ble_eq_true rfl) ?_
  intro p e s m below meth c ls hx hb hr hlk hml hown hnm hts hI hl
  have hl : lv_has ls 3 [(0, .ref h), (1, .int k), (2, .int v)] := hl
  have hS : gS b s.heap s.heap [] := va_S.rf
  obtain ⟨hP, hK⟩ := hI
  obtain ⟨hk, hv, fk, fv, fR, fK, fV, hn4, hac⟩ := id hr0
  refine lv_aload_n hx hb d_Ru_addAction_0 rfl (lv_at hl 0 rfl) ?_
  refine g_get hx hb hts i_Ru hown hK.1 hP fR rfl 5 (by decide) (hts _ k_138) (fun _ h9 => h9) rfl d_Ru_addAction_1 ?_
  refine lv_iconst (v := 4) hx hb d_Ru_addAction_4 (by decide) ?_
  refine lv_icmp_ge (tgt := 38) hx hb d_Ru_addAction_5 (by decide) (fun h9 => absurd h9 (nI_ge (show (uAc r).length < 4 by omega) (by decide))) (fun _ => ?_)
  refine lv_aload_n hx hb d_Ru_addAction_8 rfl (lv_at hl 0 rfl) ?_
  refine g_get hx hb hts i_Ru hown hK.1 hP fR rfl 3 (by decide) (hts _ k_134) (fun _ h9 => h9) rfl d_Ru_addAction_9 ?_
  refine lv_aload_n hx hb d_Ru_addAction_12 rfl (lv_at hl 0 rfl) ?_
  refine g_get hx hb hts i_Ru hown hK.1 hP fR rfl 5 (by decide) (hts _ k_138) (fun _ h9 => h9) rfl d_Ru_addAction_13 ?_
  refine lv_iload_n hx hb d_Ru_addAction_16 rfl (lv_at hl 1 rfl) ?_
  refine g_iast (k := (uAc r).length) hx hb hK.1 hP hS 0 fK rfl (vp_in_nI (show (uAc r).length < 4 by omega) (by omega)) (nI_clamp (show (uAc r).length < 2 ^ 31 by omega)) d_Ru_addAction_17 (fun H locs hP hS => ?_)
  obtain ⟨A2, eA2⟩ : ∃ z, z = gU A (9, i) (hk, .inl (cI, 4, .inl (upd fk ((uAc r).length) (k)))) := ⟨_, rfl⟩
  replace hP : gP D classes b A2 H := by rw [eA2]; exact hP
  have f3 : A2 (8, i) = some (h, .inr (2, [.int (nI (uMk r)), .int (nI (uMt r)), .ref hm, .ref hk, .ref hv, .int (nI (uAc r).length), .int (nI (uUs r)), .int (bI (uLv r))])) := (by rw [eA2]; exact gU_n (gne (show (8 : Nat) ≠ 9 by decide)) : A2 (8, i) = A (8, i)).trans fR
  have f4 : A2 (10, i) = some (hv, .inl (cI, 4, .inl fv)) := (by rw [eA2]; exact gU_n (gne (show (10 : Nat) ≠ 9 by decide)) : A2 (10, i) = A (10, i)).trans fV
  have f5 : A2 (9, i) = some (hk, .inl (cI, 4, .inl (upd fk ((uAc r).length) (k)))) := by rw [eA2]; exact gU_s
  have gA2 : gF [8, 9, 10] i A A2 := by rw [eA2]; exact gF_U gF.rf (by decide)
  refine lv_aload_n hx hb d_Ru_addAction_18 rfl (lv_at hl 0 rfl) ?_
  refine g_get hx hb hts i_Ru hown hK.1 hP f3 rfl 4 (by decide) (hts _ k_136) (fun _ h9 => h9) rfl d_Ru_addAction_19 ?_
  refine lv_aload_n hx hb d_Ru_addAction_22 rfl (lv_at hl 0 rfl) ?_
  refine g_get hx hb hts i_Ru hown hK.1 hP f3 rfl 5 (by decide) (hts _ k_138) (fun _ h9 => h9) rfl d_Ru_addAction_23 ?_
  refine lv_iload_n hx hb d_Ru_addAction_26 rfl (lv_at hl 2 rfl) ?_
  refine g_iast (k := (uAc r).length) hx hb hK.1 hP hS 0 f4 rfl (vp_in_nI (show (uAc r).length < 4 by omega) (by omega)) (nI_clamp (show (uAc r).length < 2 ^ 31 by omega)) d_Ru_addAction_27 (fun H locs hP hS => ?_)
  obtain ⟨A6, eA6⟩ : ∃ z, z = gU A2 (10, i) (hv, .inl (cI, 4, .inl (upd fv ((uAc r).length) (v)))) := ⟨_, rfl⟩
  replace hP : gP D classes b A6 H := by rw [eA6]; exact hP
  have f7 : A6 (8, i) = some (h, .inr (2, [.int (nI (uMk r)), .int (nI (uMt r)), .ref hm, .ref hk, .ref hv, .int (nI (uAc r).length), .int (nI (uUs r)), .int (bI (uLv r))])) := (by rw [eA6]; exact gU_n (gne (show (8 : Nat) ≠ 10 by decide)) : A6 (8, i) = A2 (8, i)).trans f3
  have f8 : A6 (9, i) = some (hk, .inl (cI, 4, .inl (upd fk ((uAc r).length) (k)))) := (by rw [eA6]; exact gU_n (gne (show (9 : Nat) ≠ 10 by decide)) : A6 (9, i) = A2 (9, i)).trans f5
  have f9 : A6 (10, i) = some (hv, .inl (cI, 4, .inl (upd fv ((uAc r).length) (v)))) := by rw [eA6]; exact gU_s
  have gA6 : gF [8, 9, 10] i A A6 := by rw [eA6]; exact gF_U gA2 (by decide)
  refine lv_aload_n hx hb d_Ru_addAction_28 rfl (lv_at hl 0 rfl) ?_
  refine lv_dup hx hb d_Ru_addAction_29 rfl ?_
  refine g_get hx hb hts i_Ru hown hK.1 hP f7 rfl 5 (by decide) (hts _ k_138) (fun _ h9 => h9) rfl d_Ru_addAction_30 ?_
  refine lv_iconst (v := 1) hx hb d_Ru_addAction_33 (by decide) ?_
  refine lv_iadd hx hb d_Ru_addAction_34 ?_
  refine g_put (ty := .int) hx hb hts i_Ru t_Ru t_Ru_ok n_Ru hown hK.1 hP hS f7 rfl 5 (by decide) (hts _ k_138) (fun _ h9 => h9) rfl (by decide +kernel) rfl rfl (Nat.le_of_ble_eq_true rfl) d_Ru_addAction_35 (fun H locs hP hS => ?_)
  obtain ⟨A10, eA10⟩ : ∃ z, z = gU A6 (8, i) (h, .inr (2, [.int (nI (uMk r)), .int (nI (uMt r)), .ref hm, .ref hk, .ref hv, .int ((nI (uAc r).length) + 1), .int (nI (uUs r)), .int (bI (uLv r))])) := ⟨_, rfl⟩
  replace hP : gP D classes b A10 H := by rw [eA10]; exact hP
  have f11 : A10 (9, i) = some (hk, .inl (cI, 4, .inl (upd fk ((uAc r).length) (k)))) := (by rw [eA10]; exact gU_n (gne (show (9 : Nat) ≠ 8 by decide)) : A10 (9, i) = A6 (9, i)).trans f8
  have f12 : A10 (10, i) = some (hv, .inl (cI, 4, .inl (upd fv ((uAc r).length) (v)))) := (by rw [eA10]; exact gU_n (gne (show (10 : Nat) ≠ 8 by decide)) : A10 (10, i) = A6 (10, i)).trans f9
  have f13 : A10 (8, i) = some (h, .inr (2, [.int (nI (uMk r)), .int (nI (uMt r)), .ref hm, .ref hk, .ref hv, .int ((nI (uAc r).length) + 1), .int (nI (uUs r)), .int (bI (uLv r))])) := by rw [eA10]; exact gU_s
  have gA10 : gF [8, 9, 10] i A A10 := by rw [eA10]; exact gF_U gA6 (by decide)
  refine W.widen (k := 0) (n := 0) (by decide) (by decide) ?_
  exact W.vret hx hb hr (fun t ht _ => ⟨⟨A10, rfl, ⟨⟨hk, hv, _, _, (by rw [len1]; exact f13), f11, f12, (show (uAc r ++ [(k, v)]).length ≤ 4 by simp; omega), fun j hj => snocA (fun j hj => hac j (Or.inl hj)) (show j < (uAc r ++ [(k, v)]).length by have hj2 : j < (uAc r ++ [(k, v)]).length ∨ j = 0 := hj; simp only [List.length_append, List.length_singleton] at hj2 ⊢; omega)⟩, gA10⟩, show gP D classes b A10 t.heap by rw [ht]; exact hP⟩, hS.F ht⟩) hS.2.2 d_Ru_addAction_38
end
section
set_option maxHeartbeats 4000000 in
set_option maxRecDepth 100000 in
theorem c_In_init (l : Launch) {D : va_G} {cI cZ cO cL : ClassId} {b e0 : Nat} {A : gW} {i h : Nat} (f0 : A (11, i) = some (h, .inr (3, [.int 0, .int 0, .int 0, .int 0, .int 0, .int 0, .int 0, .int 0, .long 0, .int 0, .int 0]))) {mk mt : Nat} (hmt : mt < 8) (xa xb xc : Int32) (dp : Nat) (fr : Int32) : Met l y_In_init (Cond.code y_In_init b_In_init 9 none :: TT) ({ frames := 1, cells := 0, slots := 0, locals := 20 }) (va_Pc [.ref h, .int (nI mk), .int (nI mt), .int xa, .int xb, .int xc, .int (nI dp), .int fr] (gI D [(cI, .int), (cZ, .boolean), (cO, .object "java/lang/Object"), (cL, .long)] b e0 A)) (va_Qv (fun A2 : gW => rIn A2 i h (mk, mt, cut mt (xa, xb, xc), dp, fr, 0, xNONE, false, true) ∧ gF [11] i A A2) (fun A2 t => gP D classes b A2 t.heap) (fun q => b ≤ q)) 0 0 (fun q => b ≤ q) := by
  refine Met.ofG (own := R_In) (by decide +kernel) rfl (Nat.le_of_ble_eq_true rfl) ?_
  intro p e s m below meth c ls hx hb hr hlk hml hown hnm hts hI hl
  have hl : lv_has ls 9 [(0, .ref h), (1, .int (nI mk)), (2, .int (nI mt)), (3, .int xa), (4, .int xb), (5, .int xc), (6, .int (nI dp)), (7, .int fr)] := hl
  have hS : gS b s.heap s.heap [] := va_S.rf
  obtain ⟨hP, hK⟩ := hI
  refine lv_aload_n hx hb d_In_init_0 rfl (lv_at hl 0 rfl) ?_
  refine W.objInit hx hb hown (hts _ k_268) (hts _ k_21) (hts _ k_22) rfl (by rw [hml]; exact hl.1) rfl d_In_init_1 (Nat.le_of_ble_eq_true rfl) (Nat.le_of_ble_eq_true rfl) ?_
  refine W.eq (g2 := F0 m 4 ls []) rfl ?_
  refine lv_aload_n hx hb d_In_init_4 rfl (lv_at hl 0 rfl) ?_
  refine lv_iconst (v := (-1)) hx hb d_In_init_5 (by decide) ?_
  refine g_put (ty := .int) (v := .int (-1)) hx hb hts i_In t_In t_In_ok n_In hown hK.1 hP hS f0 rfl 7 (by decide) (hts _ k_287) (fun _ h9 => h9) rfl (by decide +kernel) rfl rfl (Nat.le_of_ble_eq_true rfl) d_In_init_6 (fun H locs hP hS => ?_)
  obtain ⟨A1, eA1⟩ : ∃ z, z = gU A (11, i) (h, .inr (3, [.int 0, .int 0, .int 0, .int 0, .int 0, .int 0, .int 0, .int (-1), .long 0, .int 0, .int 0])) := ⟨_, rfl⟩
  replace hP : gP D classes b A1 H := by rw [eA1]; exact hP
  have f2 : A1 (11, i) = some (h, .inr (3, [.int 0, .int 0, .int 0, .int 0, .int 0, .int 0, .int 0, .int (-1), .long 0, .int 0, .int 0])) := by rw [eA1]; exact gU_s
  have gA1 : gF [11] i A A1 := by rw [eA1]; exact gF_U gF.rf (by decide)
  refine lv_aload_n hx hb d_In_init_9 rfl (lv_at hl 0 rfl) ?_
  refine lv_ldc2 (v := 60000000000) hx hb hown (hts _ k_269) d_In_init_10 ?_
  refine g_put (ty := .long) (v := .long 60000000000) hx hb hts i_In t_In t_In_ok n_In hown hK.1 hP hS f2 rfl 8 (by decide) (hts _ k_289) (fun _ h9 => h9) rfl (by decide +kernel) rfl rfl (Nat.le_of_ble_eq_true rfl) d_In_init_13 (fun H locs hP hS => ?_)
  obtain ⟨A3, eA3⟩ : ∃ z, z = gU A1 (11, i) (h, .inr (3, [.int 0, .int 0, .int 0, .int 0, .int 0, .int 0, .int 0, .int (-1), .long 60000000000, .int 0, .int 0])) := ⟨_, rfl⟩
  replace hP : gP D classes b A3 H := by rw [eA3]; exact hP
  have f4 : A3 (11, i) = some (h, .inr (3, [.int 0, .int 0, .int 0, .int 0, .int 0, .int 0, .int 0, .int (-1), .long 60000000000, .int 0, .int 0])) := by rw [eA3]; exact gU_s
  have gA3 : gF [11] i A A3 := by rw [eA3]; exact gF_U gA1 (by decide)
  refine lv_aload_n hx hb d_In_init_16 rfl (lv_at hl 0 rfl) ?_
  refine lv_iconst (v := 0) hx hb d_In_init_17 (by decide) ?_
  refine g_put (ty := .boolean) (v := .int 0) hx hb hts i_In t_In t_In_ok n_In hown hK.1 hP hS f4 rfl 9 (by decide) (hts _ k_291) (fun _ h9 => h9) rfl (by decide +kernel) rfl rfl (Nat.le_of_ble_eq_true rfl) d_In_init_18 (fun H locs hP hS => ?_)
  obtain ⟨A5, eA5⟩ : ∃ z, z = gU A3 (11, i) (h, .inr (3, [.int 0, .int 0, .int 0, .int 0, .int 0, .int 0, .int 0, .int (-1), .long 60000000000, .int 0, .int 0])) := ⟨_, rfl⟩
  replace hP : gP D classes b A5 H := by rw [eA5]; exact hP
  have f6 : A5 (11, i) = some (h, .inr (3, [.int 0, .int 0, .int 0, .int 0, .int 0, .int 0, .int 0, .int (-1), .long 60000000000, .int 0, .int 0])) := by rw [eA5]; exact gU_s
  have gA5 : gF [11] i A A5 := by rw [eA5]; exact gF_U gA3 (by decide)
  refine lv_aload_n hx hb d_In_init_21 rfl (lv_at hl 0 rfl) ?_
  refine lv_iconst (v := 1) hx hb d_In_init_22 (by decide) ?_
  refine g_put (ty := .boolean) (v := .int 1) hx hb hts i_In t_In t_In_ok n_In hown hK.1 hP hS f6 rfl 10 (by decide) (hts _ k_293) (fun _ h9 => h9) rfl (by decide +kernel) rfl rfl (Nat.le_of_ble_eq_true rfl) d_In_init_23 (fun H locs hP hS => ?_)
  obtain ⟨A7, eA7⟩ : ∃ z, z = gU A5 (11, i) (h, .inr (3, [.int 0, .int 0, .int 0, .int 0, .int 0, .int 0, .int 0, .int (-1), .long 60000000000, .int 0, .int 1])) := ⟨_, rfl⟩
  replace hP : gP D classes b A7 H := by rw [eA7]; exact hP
  have f8 : A7 (11, i) = some (h, .inr (3, [.int 0, .int 0, .int 0, .int 0, .int 0, .int 0, .int 0, .int (-1), .long 60000000000, .int 0, .int 1])) := by rw [eA7]; exact gU_s
  have gA7 : gF [11] i A A7 := by rw [eA7]; exact gF_U gA5 (by decide)
  refine lv_iload_n hx hb d_In_init_26 rfl (lv_at hl 2 rfl) ?_
  refine g_ri (g_runSN (As := [.int (nI mt)]) (rest := []) ⟨hx, hb, hml, hown, hts⟩ (c_MB_argumentsOf l (nI mt)) st_MB_argumentsOf (hK.2.1 _ (List.mem_of_getElem? (i := 4) rfl)) ⟨rfl, rfl, by decide, by decide⟩ (gT_pre _) rfl hl.1 rfl (Nat.le_of_ble_eq_true rfl) d_In_init_27 ⟨by decide, by decide⟩) (fun r9 hr9 => ?_)
  subst hr9
  rw [rem4 (show mt < 2 ^ 31 by omega)]
  rcases (by omega : mt % 4 = 0 ∨ mt % 4 = 1 ∨ mt % 4 = 2 ∨ mt % 4 = 3) with e4 | e4 | e4 | e4
  · rw [e4]
    refine lv_istore (lv' := [(8, .int (nI 0)), (0, .ref h), (1, .int (nI mk)), (2, .int (nI mt)), (3, .int xa), (4, .int xb), (5, .int xc), (6, .int (nI dp)), (7, .int fr)]) hx hb d_In_init_30 hl (by decide) rfl (fun ls hl => ?_)
    refine lv_aload_n hx hb d_In_init_32 rfl (lv_at hl 1 rfl) ?_
    refine lv_iload_n hx hb d_In_init_33 rfl (lv_at hl 2 rfl) ?_
    refine g_putF (ty := .int) (v := .int (nI mk)) hx hb hts i_In t_In t_In_ok n_In hown hK.1 hP hS f8 rfl 0 (by decide) (hts _ k_271) (fun _ h9 => h9) rfl hnm rfl (by decide +kernel) rfl rfl (Nat.le_of_ble_eq_true rfl) d_In_init_34 (fun H locs hP hS => ?_)
    obtain ⟨A10, eA10⟩ : ∃ z, z = gU A7 (11, i) (h, .inr (3, [.int (nI mk), .int 0, .int 0, .int 0, .int 0, .int 0, .int 0, .int (-1), .long 60000000000, .int 0, .int 1])) := ⟨_, rfl⟩
    replace hP : gP D classes b A10 H := by rw [eA10]; exact hP
    have f11 : A10 (11, i) = some (h, .inr (3, [.int (nI mk), .int 0, .int 0, .int 0, .int 0, .int 0, .int 0, .int (-1), .long 60000000000, .int 0, .int 1])) := by rw [eA10]; exact gU_s
    have gA10 : gF [11] i A A10 := by rw [eA10]; exact gF_U gA7 (by decide)
    refine lv_aload_n hx hb d_In_init_37 rfl (lv_at hl 1 rfl) ?_
    refine lv_iload_n hx hb d_In_init_38 rfl (lv_at hl 3 rfl) ?_
    refine g_putF (ty := .int) (v := .int (nI mt)) hx hb hts i_In t_In t_In_ok n_In hown hK.1 hP hS f11 rfl 1 (by decide) (hts _ k_274) (fun _ h9 => h9) rfl hnm rfl (by decide +kernel) rfl rfl (Nat.le_of_ble_eq_true rfl) d_In_init_39 (fun H locs hP hS => ?_)
    obtain ⟨A12, eA12⟩ : ∃ z, z = gU A10 (11, i) (h, .inr (3, [.int (nI mk), .int (nI mt), .int 0, .int 0, .int 0, .int 0, .int 0, .int (-1), .long 60000000000, .int 0, .int 1])) := ⟨_, rfl⟩
    replace hP : gP D classes b A12 H := by rw [eA12]; exact hP
    have f13 : A12 (11, i) = some (h, .inr (3, [.int (nI mk), .int (nI mt), .int 0, .int 0, .int 0, .int 0, .int 0, .int (-1), .long 60000000000, .int 0, .int 1])) := by rw [eA12]; exact gU_s
    have gA12 : gF [11] i A A12 := by rw [eA12]; exact gF_U gA10 (by decide)
    refine lv_aload_n hx hb d_In_init_42 rfl (lv_at hl 1 rfl) ?_
    refine lv_iload hx hb d_In_init_43 (lv_at hl 0 rfl) ?_
    refine lv_if_le (tgt := 52) hx hb d_In_init_45 (by decide) (fun _ => ?_) (fun h9 => absurd (by decide) h9)
    refine lv_iconst (v := 0) hx hb d_In_init_52 (by decide) ?_
    refine g_putF (ty := .int) (v := .int 0) hx hb hts i_In t_In t_In_ok n_In hown hK.1 hP hS f13 rfl 2 (by decide) (hts _ k_277) (fun _ h9 => h9) rfl hnm rfl (by decide +kernel) rfl rfl (Nat.le_of_ble_eq_true rfl) d_In_init_53 (fun H locs hP hS => ?_)
    obtain ⟨A15, eA15⟩ : ∃ z, z = gU A12 (11, i) (h, .inr (3, [.int (nI mk), .int (nI mt), .int 0, .int 0, .int 0, .int 0, .int 0, .int (-1), .long 60000000000, .int 0, .int 1])) := ⟨_, rfl⟩
    replace hP : gP D classes b A15 H := by rw [eA15]; exact hP
    have f16 : A15 (11, i) = some (h, .inr (3, [.int (nI mk), .int (nI mt), .int 0, .int 0, .int 0, .int 0, .int 0, .int (-1), .long 60000000000, .int 0, .int 1])) := by rw [eA15]; exact gU_s
    have gA15 : gF [11] i A A15 := by rw [eA15]; exact gF_U gA12 (by decide)
    refine lv_aload_n hx hb d_In_init_56 rfl (lv_at hl 1 rfl) ?_
    refine lv_iload hx hb d_In_init_57 (lv_at hl 0 rfl) ?_
    refine lv_iconst (v := 1) hx hb d_In_init_59 (by decide) ?_
    refine lv_icmp_le (tgt := 68) hx hb d_In_init_60 (by decide) (fun _ => ?_) (fun h9 => absurd (by decide) h9)
    refine lv_iconst (v := 0) hx hb d_In_init_68 (by decide) ?_
    refine g_putF (ty := .int) (v := .int 0) hx hb hts i_In t_In t_In_ok n_In hown hK.1 hP hS f16 rfl 3 (by decide) (hts _ k_279) (fun _ h9 => h9) rfl hnm rfl (by decide +kernel) rfl rfl (Nat.le_of_ble_eq_true rfl) d_In_init_69 (fun H locs hP hS => ?_)
    obtain ⟨A18, eA18⟩ : ∃ z, z = gU A15 (11, i) (h, .inr (3, [.int (nI mk), .int (nI mt), .int 0, .int 0, .int 0, .int 0, .int 0, .int (-1), .long 60000000000, .int 0, .int 1])) := ⟨_, rfl⟩
    replace hP : gP D classes b A18 H := by rw [eA18]; exact hP
    have f19 : A18 (11, i) = some (h, .inr (3, [.int (nI mk), .int (nI mt), .int 0, .int 0, .int 0, .int 0, .int 0, .int (-1), .long 60000000000, .int 0, .int 1])) := by rw [eA18]; exact gU_s
    have gA18 : gF [11] i A A18 := by rw [eA18]; exact gF_U gA15 (by decide)
    refine lv_aload_n hx hb d_In_init_72 rfl (lv_at hl 1 rfl) ?_
    refine lv_iload hx hb d_In_init_73 (lv_at hl 0 rfl) ?_
    refine lv_iconst (v := 2) hx hb d_In_init_75 (by decide) ?_
    refine lv_icmp_le (tgt := 84) hx hb d_In_init_76 (by decide) (fun _ => ?_) (fun h9 => absurd (by decide) h9)
    refine lv_iconst (v := 0) hx hb d_In_init_84 (by decide) ?_
    refine g_putF (ty := .int) (v := .int 0) hx hb hts i_In t_In t_In_ok n_In hown hK.1 hP hS f19 rfl 4 (by decide) (hts _ k_281) (fun _ h9 => h9) rfl hnm rfl (by decide +kernel) rfl rfl (Nat.le_of_ble_eq_true rfl) d_In_init_85 (fun H locs hP hS => ?_)
    obtain ⟨A21, eA21⟩ : ∃ z, z = gU A18 (11, i) (h, .inr (3, [.int (nI mk), .int (nI mt), .int 0, .int 0, .int 0, .int 0, .int 0, .int (-1), .long 60000000000, .int 0, .int 1])) := ⟨_, rfl⟩
    replace hP : gP D classes b A21 H := by rw [eA21]; exact hP
    have f22 : A21 (11, i) = some (h, .inr (3, [.int (nI mk), .int (nI mt), .int 0, .int 0, .int 0, .int 0, .int 0, .int (-1), .long 60000000000, .int 0, .int 1])) := by rw [eA21]; exact gU_s
    have gA21 : gF [11] i A A21 := by rw [eA21]; exact gF_U gA18 (by decide)
    refine lv_aload_n hx hb d_In_init_88 rfl (lv_at hl 1 rfl) ?_
    refine lv_iload hx hb d_In_init_89 (lv_at hl 7 rfl) ?_
    refine g_putF (ty := .int) (v := .int (nI dp)) hx hb hts i_In t_In t_In_ok n_In hown hK.1 hP hS f22 rfl 5 (by decide) (hts _ k_283) (fun _ h9 => h9) rfl hnm rfl (by decide +kernel) rfl rfl (Nat.le_of_ble_eq_true rfl) d_In_init_91 (fun H locs hP hS => ?_)
    obtain ⟨A23, eA23⟩ : ∃ z, z = gU A21 (11, i) (h, .inr (3, [.int (nI mk), .int (nI mt), .int 0, .int 0, .int 0, .int (nI dp), .int 0, .int (-1), .long 60000000000, .int 0, .int 1])) := ⟨_, rfl⟩
    replace hP : gP D classes b A23 H := by rw [eA23]; exact hP
    have f24 : A23 (11, i) = some (h, .inr (3, [.int (nI mk), .int (nI mt), .int 0, .int 0, .int 0, .int (nI dp), .int 0, .int (-1), .long 60000000000, .int 0, .int 1])) := by rw [eA23]; exact gU_s
    have gA23 : gF [11] i A A23 := by rw [eA23]; exact gF_U gA21 (by decide)
    refine lv_aload_n hx hb d_In_init_94 rfl (lv_at hl 1 rfl) ?_
    refine lv_iload hx hb d_In_init_95 (lv_at hl 8 rfl) ?_
    refine g_putF (ty := .int) (v := .int fr) hx hb hts i_In t_In t_In_ok n_In hown hK.1 hP hS f24 rfl 6 (by decide) (hts _ k_285) (fun _ h9 => h9) rfl hnm rfl (by decide +kernel) rfl rfl (Nat.le_of_ble_eq_true rfl) d_In_init_97 (fun H locs hP hS => ?_)
    obtain ⟨A25, eA25⟩ : ∃ z, z = gU A23 (11, i) (h, .inr (3, [.int (nI mk), .int (nI mt), .int 0, .int 0, .int 0, .int (nI dp), .int fr, .int (-1), .long 60000000000, .int 0, .int 1])) := ⟨_, rfl⟩
    replace hP : gP D classes b A25 H := by rw [eA25]; exact hP
    have f26 : A25 (11, i) = some (h, .inr (3, [.int (nI mk), .int (nI mt), .int 0, .int 0, .int 0, .int (nI dp), .int fr, .int (-1), .long 60000000000, .int 0, .int 1])) := by rw [eA25]; exact gU_s
    have gA25 : gF [11] i A A25 := by rw [eA25]; exact gF_U gA23 (by decide)
    refine W.widen (k := 0) (n := 0) (by decide) (by decide) ?_
    exact W.vret hx hb hr (fun t ht _ => ⟨⟨A25, rfl, ⟨(by show A25 (11, i) = some (h, .inr (3, [.int (nI mk), .int (nI mt), .int (if 0 < mt % 4 then xa else 0), .int (if 1 < mt % 4 then xb else 0), .int (if 2 < mt % 4 then xc else 0), .int (nI dp), .int fr, .int (nI 0 - 1), .long xNONE, .int (bI false), .int (bI true)])); rw [e4]; exact f26), gA25⟩, show gP D classes b A25 t.heap by rw [ht]; exact hP⟩, hS.F ht⟩) hS.2.2 d_In_init_100
  · rw [e4]
    refine lv_istore (lv' := [(8, .int (nI 1)), (0, .ref h), (1, .int (nI mk)), (2, .int (nI mt)), (3, .int xa), (4, .int xb), (5, .int xc), (6, .int (nI dp)), (7, .int fr)]) hx hb d_In_init_30 hl (by decide) rfl (fun ls hl => ?_)
    refine lv_aload_n hx hb d_In_init_32 rfl (lv_at hl 1 rfl) ?_
    refine lv_iload_n hx hb d_In_init_33 rfl (lv_at hl 2 rfl) ?_
    refine g_putF (ty := .int) (v := .int (nI mk)) hx hb hts i_In t_In t_In_ok n_In hown hK.1 hP hS f8 rfl 0 (by decide) (hts _ k_271) (fun _ h9 => h9) rfl hnm rfl (by decide +kernel) rfl rfl (Nat.le_of_ble_eq_true rfl) d_In_init_34 (fun H locs hP hS => ?_)
    obtain ⟨A27, eA27⟩ : ∃ z, z = gU A7 (11, i) (h, .inr (3, [.int (nI mk), .int 0, .int 0, .int 0, .int 0, .int 0, .int 0, .int (-1), .long 60000000000, .int 0, .int 1])) := ⟨_, rfl⟩
    replace hP : gP D classes b A27 H := by rw [eA27]; exact hP
    have f28 : A27 (11, i) = some (h, .inr (3, [.int (nI mk), .int 0, .int 0, .int 0, .int 0, .int 0, .int 0, .int (-1), .long 60000000000, .int 0, .int 1])) := by rw [eA27]; exact gU_s
    have gA27 : gF [11] i A A27 := by rw [eA27]; exact gF_U gA7 (by decide)
    refine lv_aload_n hx hb d_In_init_37 rfl (lv_at hl 1 rfl) ?_
    refine lv_iload_n hx hb d_In_init_38 rfl (lv_at hl 3 rfl) ?_
    refine g_putF (ty := .int) (v := .int (nI mt)) hx hb hts i_In t_In t_In_ok n_In hown hK.1 hP hS f28 rfl 1 (by decide) (hts _ k_274) (fun _ h9 => h9) rfl hnm rfl (by decide +kernel) rfl rfl (Nat.le_of_ble_eq_true rfl) d_In_init_39 (fun H locs hP hS => ?_)
    obtain ⟨A29, eA29⟩ : ∃ z, z = gU A27 (11, i) (h, .inr (3, [.int (nI mk), .int (nI mt), .int 0, .int 0, .int 0, .int 0, .int 0, .int (-1), .long 60000000000, .int 0, .int 1])) := ⟨_, rfl⟩
    replace hP : gP D classes b A29 H := by rw [eA29]; exact hP
    have f30 : A29 (11, i) = some (h, .inr (3, [.int (nI mk), .int (nI mt), .int 0, .int 0, .int 0, .int 0, .int 0, .int (-1), .long 60000000000, .int 0, .int 1])) := by rw [eA29]; exact gU_s
    have gA29 : gF [11] i A A29 := by rw [eA29]; exact gF_U gA27 (by decide)
    refine lv_aload_n hx hb d_In_init_42 rfl (lv_at hl 1 rfl) ?_
    refine lv_iload hx hb d_In_init_43 (lv_at hl 0 rfl) ?_
    refine lv_if_le (tgt := 52) hx hb d_In_init_45 (by decide) (fun h9 => absurd h9 (by decide)) (fun _ => ?_)
    refine lv_iload_n hx hb d_In_init_48 rfl (lv_at hl 4 rfl) ?_
    refine lv_goto (tgt := 53) hx hb d_In_init_49 (by decide) ?_
    refine g_putF (ty := .int) (v := .int xa) hx hb hts i_In t_In t_In_ok n_In hown hK.1 hP hS f30 rfl 2 (by decide) (hts _ k_277) (fun _ h9 => h9) rfl hnm rfl (by decide +kernel) rfl rfl (Nat.le_of_ble_eq_true rfl) d_In_init_53 (fun H locs hP hS => ?_)
    obtain ⟨A32, eA32⟩ : ∃ z, z = gU A29 (11, i) (h, .inr (3, [.int (nI mk), .int (nI mt), .int xa, .int 0, .int 0, .int 0, .int 0, .int (-1), .long 60000000000, .int 0, .int 1])) := ⟨_, rfl⟩
    replace hP : gP D classes b A32 H := by rw [eA32]; exact hP
    have f33 : A32 (11, i) = some (h, .inr (3, [.int (nI mk), .int (nI mt), .int xa, .int 0, .int 0, .int 0, .int 0, .int (-1), .long 60000000000, .int 0, .int 1])) := by rw [eA32]; exact gU_s
    have gA32 : gF [11] i A A32 := by rw [eA32]; exact gF_U gA29 (by decide)
    refine lv_aload_n hx hb d_In_init_56 rfl (lv_at hl 1 rfl) ?_
    refine lv_iload hx hb d_In_init_57 (lv_at hl 0 rfl) ?_
    refine lv_iconst (v := 1) hx hb d_In_init_59 (by decide) ?_
    refine lv_icmp_le (tgt := 68) hx hb d_In_init_60 (by decide) (fun _ => ?_) (fun h9 => absurd (by decide) h9)
    refine lv_iconst (v := 0) hx hb d_In_init_68 (by decide) ?_
    refine g_putF (ty := .int) (v := .int 0) hx hb hts i_In t_In t_In_ok n_In hown hK.1 hP hS f33 rfl 3 (by decide) (hts _ k_279) (fun _ h9 => h9) rfl hnm rfl (by decide +kernel) rfl rfl (Nat.le_of_ble_eq_true rfl) d_In_init_69 (fun H locs hP hS => ?_)
    obtain ⟨A35, eA35⟩ : ∃ z, z = gU A32 (11, i) (h, .inr (3, [.int (nI mk), .int (nI mt), .int xa, .int 0, .int 0, .int 0, .int 0, .int (-1), .long 60000000000, .int 0, .int 1])) := ⟨_, rfl⟩
    replace hP : gP D classes b A35 H := by rw [eA35]; exact hP
    have f36 : A35 (11, i) = some (h, .inr (3, [.int (nI mk), .int (nI mt), .int xa, .int 0, .int 0, .int 0, .int 0, .int (-1), .long 60000000000, .int 0, .int 1])) := by rw [eA35]; exact gU_s
    have gA35 : gF [11] i A A35 := by rw [eA35]; exact gF_U gA32 (by decide)
    refine lv_aload_n hx hb d_In_init_72 rfl (lv_at hl 1 rfl) ?_
    refine lv_iload hx hb d_In_init_73 (lv_at hl 0 rfl) ?_
    refine lv_iconst (v := 2) hx hb d_In_init_75 (by decide) ?_
    refine lv_icmp_le (tgt := 84) hx hb d_In_init_76 (by decide) (fun _ => ?_) (fun h9 => absurd (by decide) h9)
    refine lv_iconst (v := 0) hx hb d_In_init_84 (by decide) ?_
    refine g_putF (ty := .int) (v := .int 0) hx hb hts i_In t_In t_In_ok n_In hown hK.1 hP hS f36 rfl 4 (by decide) (hts _ k_281) (fun _ h9 => h9) rfl hnm rfl (by decide +kernel) rfl rfl (Nat.le_of_ble_eq_true rfl) d_In_init_85 (fun H locs hP hS => ?_)
    obtain ⟨A38, eA38⟩ : ∃ z, z = gU A35 (11, i) (h, .inr (3, [.int (nI mk), .int (nI mt), .int xa, .int 0, .int 0, .int 0, .int 0, .int (-1), .long 60000000000, .int 0, .int 1])) := ⟨_, rfl⟩
    replace hP : gP D classes b A38 H := by rw [eA38]; exact hP
    have f39 : A38 (11, i) = some (h, .inr (3, [.int (nI mk), .int (nI mt), .int xa, .int 0, .int 0, .int 0, .int 0, .int (-1), .long 60000000000, .int 0, .int 1])) := by rw [eA38]; exact gU_s
    have gA38 : gF [11] i A A38 := by rw [eA38]; exact gF_U gA35 (by decide)
    refine lv_aload_n hx hb d_In_init_88 rfl (lv_at hl 1 rfl) ?_
    refine lv_iload hx hb d_In_init_89 (lv_at hl 7 rfl) ?_
    refine g_putF (ty := .int) (v := .int (nI dp)) hx hb hts i_In t_In t_In_ok n_In hown hK.1 hP hS f39 rfl 5 (by decide) (hts _ k_283) (fun _ h9 => h9) rfl hnm rfl (by decide +kernel) rfl rfl (Nat.le_of_ble_eq_true rfl) d_In_init_91 (fun H locs hP hS => ?_)
    obtain ⟨A40, eA40⟩ : ∃ z, z = gU A38 (11, i) (h, .inr (3, [.int (nI mk), .int (nI mt), .int xa, .int 0, .int 0, .int (nI dp), .int 0, .int (-1), .long 60000000000, .int 0, .int 1])) := ⟨_, rfl⟩
    replace hP : gP D classes b A40 H := by rw [eA40]; exact hP
    have f41 : A40 (11, i) = some (h, .inr (3, [.int (nI mk), .int (nI mt), .int xa, .int 0, .int 0, .int (nI dp), .int 0, .int (-1), .long 60000000000, .int 0, .int 1])) := by rw [eA40]; exact gU_s
    have gA40 : gF [11] i A A40 := by rw [eA40]; exact gF_U gA38 (by decide)
    refine lv_aload_n hx hb d_In_init_94 rfl (lv_at hl 1 rfl) ?_
    refine lv_iload hx hb d_In_init_95 (lv_at hl 8 rfl) ?_
    refine g_putF (ty := .int) (v := .int fr) hx hb hts i_In t_In t_In_ok n_In hown hK.1 hP hS f41 rfl 6 (by decide) (hts _ k_285) (fun _ h9 => h9) rfl hnm rfl (by decide +kernel) rfl rfl (Nat.le_of_ble_eq_true rfl) d_In_init_97 (fun H locs hP hS => ?_)
    obtain ⟨A42, eA42⟩ : ∃ z, z = gU A40 (11, i) (h, .inr (3, [.int (nI mk), .int (nI mt), .int xa, .int 0, .int 0, .int (nI dp), .int fr, .int (-1), .long 60000000000, .int 0, .int 1])) := ⟨_, rfl⟩
    replace hP : gP D classes b A42 H := by rw [eA42]; exact hP
    have f43 : A42 (11, i) = some (h, .inr (3, [.int (nI mk), .int (nI mt), .int xa, .int 0, .int 0, .int (nI dp), .int fr, .int (-1), .long 60000000000, .int 0, .int 1])) := by rw [eA42]; exact gU_s
    have gA42 : gF [11] i A A42 := by rw [eA42]; exact gF_U gA40 (by decide)
    refine W.widen (k := 0) (n := 0) (by decide) (by decide) ?_
    exact W.vret hx hb hr (fun t ht _ => ⟨⟨A42, rfl, ⟨(by show A42 (11, i) = some (h, .inr (3, [.int (nI mk), .int (nI mt), .int (if 0 < mt % 4 then xa else 0), .int (if 1 < mt % 4 then xb else 0), .int (if 2 < mt % 4 then xc else 0), .int (nI dp), .int fr, .int (nI 0 - 1), .long xNONE, .int (bI false), .int (bI true)])); rw [e4]; exact f43), gA42⟩, show gP D classes b A42 t.heap by rw [ht]; exact hP⟩, hS.F ht⟩) hS.2.2 d_In_init_100
  · rw [e4]
    refine lv_istore (lv' := [(8, .int (nI 2)), (0, .ref h), (1, .int (nI mk)), (2, .int (nI mt)), (3, .int xa), (4, .int xb), (5, .int xc), (6, .int (nI dp)), (7, .int fr)]) hx hb d_In_init_30 hl (by decide) rfl (fun ls hl => ?_)
    refine lv_aload_n hx hb d_In_init_32 rfl (lv_at hl 1 rfl) ?_
    refine lv_iload_n hx hb d_In_init_33 rfl (lv_at hl 2 rfl) ?_
    refine g_putF (ty := .int) (v := .int (nI mk)) hx hb hts i_In t_In t_In_ok n_In hown hK.1 hP hS f8 rfl 0 (by decide) (hts _ k_271) (fun _ h9 => h9) rfl hnm rfl (by decide +kernel) rfl rfl (Nat.le_of_ble_eq_true rfl) d_In_init_34 (fun H locs hP hS => ?_)
    obtain ⟨A44, eA44⟩ : ∃ z, z = gU A7 (11, i) (h, .inr (3, [.int (nI mk), .int 0, .int 0, .int 0, .int 0, .int 0, .int 0, .int (-1), .long 60000000000, .int 0, .int 1])) := ⟨_, rfl⟩
    replace hP : gP D classes b A44 H := by rw [eA44]; exact hP
    have f45 : A44 (11, i) = some (h, .inr (3, [.int (nI mk), .int 0, .int 0, .int 0, .int 0, .int 0, .int 0, .int (-1), .long 60000000000, .int 0, .int 1])) := by rw [eA44]; exact gU_s
    have gA44 : gF [11] i A A44 := by rw [eA44]; exact gF_U gA7 (by decide)
    refine lv_aload_n hx hb d_In_init_37 rfl (lv_at hl 1 rfl) ?_
    refine lv_iload_n hx hb d_In_init_38 rfl (lv_at hl 3 rfl) ?_
    refine g_putF (ty := .int) (v := .int (nI mt)) hx hb hts i_In t_In t_In_ok n_In hown hK.1 hP hS f45 rfl 1 (by decide) (hts _ k_274) (fun _ h9 => h9) rfl hnm rfl (by decide +kernel) rfl rfl (Nat.le_of_ble_eq_true rfl) d_In_init_39 (fun H locs hP hS => ?_)
    obtain ⟨A46, eA46⟩ : ∃ z, z = gU A44 (11, i) (h, .inr (3, [.int (nI mk), .int (nI mt), .int 0, .int 0, .int 0, .int 0, .int 0, .int (-1), .long 60000000000, .int 0, .int 1])) := ⟨_, rfl⟩
    replace hP : gP D classes b A46 H := by rw [eA46]; exact hP
    have f47 : A46 (11, i) = some (h, .inr (3, [.int (nI mk), .int (nI mt), .int 0, .int 0, .int 0, .int 0, .int 0, .int (-1), .long 60000000000, .int 0, .int 1])) := by rw [eA46]; exact gU_s
    have gA46 : gF [11] i A A46 := by rw [eA46]; exact gF_U gA44 (by decide)
    refine lv_aload_n hx hb d_In_init_42 rfl (lv_at hl 1 rfl) ?_
    refine lv_iload hx hb d_In_init_43 (lv_at hl 0 rfl) ?_
    refine lv_if_le (tgt := 52) hx hb d_In_init_45 (by decide) (fun h9 => absurd h9 (by decide)) (fun _ => ?_)
    refine lv_iload_n hx hb d_In_init_48 rfl (lv_at hl 4 rfl) ?_
    refine lv_goto (tgt := 53) hx hb d_In_init_49 (by decide) ?_
    refine g_putF (ty := .int) (v := .int xa) hx hb hts i_In t_In t_In_ok n_In hown hK.1 hP hS f47 rfl 2 (by decide) (hts _ k_277) (fun _ h9 => h9) rfl hnm rfl (by decide +kernel) rfl rfl (Nat.le_of_ble_eq_true rfl) d_In_init_53 (fun H locs hP hS => ?_)
    obtain ⟨A49, eA49⟩ : ∃ z, z = gU A46 (11, i) (h, .inr (3, [.int (nI mk), .int (nI mt), .int xa, .int 0, .int 0, .int 0, .int 0, .int (-1), .long 60000000000, .int 0, .int 1])) := ⟨_, rfl⟩
    replace hP : gP D classes b A49 H := by rw [eA49]; exact hP
    have f50 : A49 (11, i) = some (h, .inr (3, [.int (nI mk), .int (nI mt), .int xa, .int 0, .int 0, .int 0, .int 0, .int (-1), .long 60000000000, .int 0, .int 1])) := by rw [eA49]; exact gU_s
    have gA49 : gF [11] i A A49 := by rw [eA49]; exact gF_U gA46 (by decide)
    refine lv_aload_n hx hb d_In_init_56 rfl (lv_at hl 1 rfl) ?_
    refine lv_iload hx hb d_In_init_57 (lv_at hl 0 rfl) ?_
    refine lv_iconst (v := 1) hx hb d_In_init_59 (by decide) ?_
    refine lv_icmp_le (tgt := 68) hx hb d_In_init_60 (by decide) (fun h9 => absurd h9 (by decide)) (fun _ => ?_)
    refine lv_iload hx hb d_In_init_63 (lv_at hl 5 rfl) ?_
    refine lv_goto (tgt := 69) hx hb d_In_init_65 (by decide) ?_
    refine g_putF (ty := .int) (v := .int xb) hx hb hts i_In t_In t_In_ok n_In hown hK.1 hP hS f50 rfl 3 (by decide) (hts _ k_279) (fun _ h9 => h9) rfl hnm rfl (by decide +kernel) rfl rfl (Nat.le_of_ble_eq_true rfl) d_In_init_69 (fun H locs hP hS => ?_)
    obtain ⟨A52, eA52⟩ : ∃ z, z = gU A49 (11, i) (h, .inr (3, [.int (nI mk), .int (nI mt), .int xa, .int xb, .int 0, .int 0, .int 0, .int (-1), .long 60000000000, .int 0, .int 1])) := ⟨_, rfl⟩
    replace hP : gP D classes b A52 H := by rw [eA52]; exact hP
    have f53 : A52 (11, i) = some (h, .inr (3, [.int (nI mk), .int (nI mt), .int xa, .int xb, .int 0, .int 0, .int 0, .int (-1), .long 60000000000, .int 0, .int 1])) := by rw [eA52]; exact gU_s
    have gA52 : gF [11] i A A52 := by rw [eA52]; exact gF_U gA49 (by decide)
    refine lv_aload_n hx hb d_In_init_72 rfl (lv_at hl 1 rfl) ?_
    refine lv_iload hx hb d_In_init_73 (lv_at hl 0 rfl) ?_
    refine lv_iconst (v := 2) hx hb d_In_init_75 (by decide) ?_
    refine lv_icmp_le (tgt := 84) hx hb d_In_init_76 (by decide) (fun _ => ?_) (fun h9 => absurd (by decide) h9)
    refine lv_iconst (v := 0) hx hb d_In_init_84 (by decide) ?_
    refine g_putF (ty := .int) (v := .int 0) hx hb hts i_In t_In t_In_ok n_In hown hK.1 hP hS f53 rfl 4 (by decide) (hts _ k_281) (fun _ h9 => h9) rfl hnm rfl (by decide +kernel) rfl rfl (Nat.le_of_ble_eq_true rfl) d_In_init_85 (fun H locs hP hS => ?_)
    obtain ⟨A55, eA55⟩ : ∃ z, z = gU A52 (11, i) (h, .inr (3, [.int (nI mk), .int (nI mt), .int xa, .int xb, .int 0, .int 0, .int 0, .int (-1), .long 60000000000, .int 0, .int 1])) := ⟨_, rfl⟩
    replace hP : gP D classes b A55 H := by rw [eA55]; exact hP
    have f56 : A55 (11, i) = some (h, .inr (3, [.int (nI mk), .int (nI mt), .int xa, .int xb, .int 0, .int 0, .int 0, .int (-1), .long 60000000000, .int 0, .int 1])) := by rw [eA55]; exact gU_s
    have gA55 : gF [11] i A A55 := by rw [eA55]; exact gF_U gA52 (by decide)
    refine lv_aload_n hx hb d_In_init_88 rfl (lv_at hl 1 rfl) ?_
    refine lv_iload hx hb d_In_init_89 (lv_at hl 7 rfl) ?_
    refine g_putF (ty := .int) (v := .int (nI dp)) hx hb hts i_In t_In t_In_ok n_In hown hK.1 hP hS f56 rfl 5 (by decide) (hts _ k_283) (fun _ h9 => h9) rfl hnm rfl (by decide +kernel) rfl rfl (Nat.le_of_ble_eq_true rfl) d_In_init_91 (fun H locs hP hS => ?_)
    obtain ⟨A57, eA57⟩ : ∃ z, z = gU A55 (11, i) (h, .inr (3, [.int (nI mk), .int (nI mt), .int xa, .int xb, .int 0, .int (nI dp), .int 0, .int (-1), .long 60000000000, .int 0, .int 1])) := ⟨_, rfl⟩
    replace hP : gP D classes b A57 H := by rw [eA57]; exact hP
    have f58 : A57 (11, i) = some (h, .inr (3, [.int (nI mk), .int (nI mt), .int xa, .int xb, .int 0, .int (nI dp), .int 0, .int (-1), .long 60000000000, .int 0, .int 1])) := by rw [eA57]; exact gU_s
    have gA57 : gF [11] i A A57 := by rw [eA57]; exact gF_U gA55 (by decide)
    refine lv_aload_n hx hb d_In_init_94 rfl (lv_at hl 1 rfl) ?_
    refine lv_iload hx hb d_In_init_95 (lv_at hl 8 rfl) ?_
    refine g_putF (ty := .int) (v := .int fr) hx hb hts i_In t_In t_In_ok n_In hown hK.1 hP hS f58 rfl 6 (by decide) (hts _ k_285) (fun _ h9 => h9) rfl hnm rfl (by decide +kernel) rfl rfl (Nat.le_of_ble_eq_true rfl) d_In_init_97 (fun H locs hP hS => ?_)
    obtain ⟨A59, eA59⟩ : ∃ z, z = gU A57 (11, i) (h, .inr (3, [.int (nI mk), .int (nI mt), .int xa, .int xb, .int 0, .int (nI dp), .int fr, .int (-1), .long 60000000000, .int 0, .int 1])) := ⟨_, rfl⟩
    replace hP : gP D classes b A59 H := by rw [eA59]; exact hP
    have f60 : A59 (11, i) = some (h, .inr (3, [.int (nI mk), .int (nI mt), .int xa, .int xb, .int 0, .int (nI dp), .int fr, .int (-1), .long 60000000000, .int 0, .int 1])) := by rw [eA59]; exact gU_s
    have gA59 : gF [11] i A A59 := by rw [eA59]; exact gF_U gA57 (by decide)
    refine W.widen (k := 0) (n := 0) (by decide) (by decide) ?_
    exact W.vret hx hb hr (fun t ht _ => ⟨⟨A59, rfl, ⟨(by show A59 (11, i) = some (h, .inr (3, [.int (nI mk), .int (nI mt), .int (if 0 < mt % 4 then xa else 0), .int (if 1 < mt % 4 then xb else 0), .int (if 2 < mt % 4 then xc else 0), .int (nI dp), .int fr, .int (nI 0 - 1), .long xNONE, .int (bI false), .int (bI true)])); rw [e4]; exact f60), gA59⟩, show gP D classes b A59 t.heap by rw [ht]; exact hP⟩, hS.F ht⟩) hS.2.2 d_In_init_100
  · rw [e4]
    refine lv_istore (lv' := [(8, .int (nI 3)), (0, .ref h), (1, .int (nI mk)), (2, .int (nI mt)), (3, .int xa), (4, .int xb), (5, .int xc), (6, .int (nI dp)), (7, .int fr)]) hx hb d_In_init_30 hl (by decide) rfl (fun ls hl => ?_)
    refine lv_aload_n hx hb d_In_init_32 rfl (lv_at hl 1 rfl) ?_
    refine lv_iload_n hx hb d_In_init_33 rfl (lv_at hl 2 rfl) ?_
    refine g_putF (ty := .int) (v := .int (nI mk)) hx hb hts i_In t_In t_In_ok n_In hown hK.1 hP hS f8 rfl 0 (by decide) (hts _ k_271) (fun _ h9 => h9) rfl hnm rfl (by decide +kernel) rfl rfl (Nat.le_of_ble_eq_true rfl) d_In_init_34 (fun H locs hP hS => ?_)
    obtain ⟨A61, eA61⟩ : ∃ z, z = gU A7 (11, i) (h, .inr (3, [.int (nI mk), .int 0, .int 0, .int 0, .int 0, .int 0, .int 0, .int (-1), .long 60000000000, .int 0, .int 1])) := ⟨_, rfl⟩
    replace hP : gP D classes b A61 H := by rw [eA61]; exact hP
    have f62 : A61 (11, i) = some (h, .inr (3, [.int (nI mk), .int 0, .int 0, .int 0, .int 0, .int 0, .int 0, .int (-1), .long 60000000000, .int 0, .int 1])) := by rw [eA61]; exact gU_s
    have gA61 : gF [11] i A A61 := by rw [eA61]; exact gF_U gA7 (by decide)
    refine lv_aload_n hx hb d_In_init_37 rfl (lv_at hl 1 rfl) ?_
    refine lv_iload_n hx hb d_In_init_38 rfl (lv_at hl 3 rfl) ?_
    refine g_putF (ty := .int) (v := .int (nI mt)) hx hb hts i_In t_In t_In_ok n_In hown hK.1 hP hS f62 rfl 1 (by decide) (hts _ k_274) (fun _ h9 => h9) rfl hnm rfl (by decide +kernel) rfl rfl (Nat.le_of_ble_eq_true rfl) d_In_init_39 (fun H locs hP hS => ?_)
    obtain ⟨A63, eA63⟩ : ∃ z, z = gU A61 (11, i) (h, .inr (3, [.int (nI mk), .int (nI mt), .int 0, .int 0, .int 0, .int 0, .int 0, .int (-1), .long 60000000000, .int 0, .int 1])) := ⟨_, rfl⟩
    replace hP : gP D classes b A63 H := by rw [eA63]; exact hP
    have f64 : A63 (11, i) = some (h, .inr (3, [.int (nI mk), .int (nI mt), .int 0, .int 0, .int 0, .int 0, .int 0, .int (-1), .long 60000000000, .int 0, .int 1])) := by rw [eA63]; exact gU_s
    have gA63 : gF [11] i A A63 := by rw [eA63]; exact gF_U gA61 (by decide)
    refine lv_aload_n hx hb d_In_init_42 rfl (lv_at hl 1 rfl) ?_
    refine lv_iload hx hb d_In_init_43 (lv_at hl 0 rfl) ?_
    refine lv_if_le (tgt := 52) hx hb d_In_init_45 (by decide) (fun h9 => absurd h9 (by decide)) (fun _ => ?_)
    refine lv_iload_n hx hb d_In_init_48 rfl (lv_at hl 4 rfl) ?_
    refine lv_goto (tgt := 53) hx hb d_In_init_49 (by decide) ?_
    refine g_putF (ty := .int) (v := .int xa) hx hb hts i_In t_In t_In_ok n_In hown hK.1 hP hS f64 rfl 2 (by decide) (hts _ k_277) (fun _ h9 => h9) rfl hnm rfl (by decide +kernel) rfl rfl (Nat.le_of_ble_eq_true rfl) d_In_init_53 (fun H locs hP hS => ?_)
    obtain ⟨A66, eA66⟩ : ∃ z, z = gU A63 (11, i) (h, .inr (3, [.int (nI mk), .int (nI mt), .int xa, .int 0, .int 0, .int 0, .int 0, .int (-1), .long 60000000000, .int 0, .int 1])) := ⟨_, rfl⟩
    replace hP : gP D classes b A66 H := by rw [eA66]; exact hP
    have f67 : A66 (11, i) = some (h, .inr (3, [.int (nI mk), .int (nI mt), .int xa, .int 0, .int 0, .int 0, .int 0, .int (-1), .long 60000000000, .int 0, .int 1])) := by rw [eA66]; exact gU_s
    have gA66 : gF [11] i A A66 := by rw [eA66]; exact gF_U gA63 (by decide)
    refine lv_aload_n hx hb d_In_init_56 rfl (lv_at hl 1 rfl) ?_
    refine lv_iload hx hb d_In_init_57 (lv_at hl 0 rfl) ?_
    refine lv_iconst (v := 1) hx hb d_In_init_59 (by decide) ?_
    refine lv_icmp_le (tgt := 68) hx hb d_In_init_60 (by decide) (fun h9 => absurd h9 (by decide)) (fun _ => ?_)
    refine lv_iload hx hb d_In_init_63 (lv_at hl 5 rfl) ?_
    refine lv_goto (tgt := 69) hx hb d_In_init_65 (by decide) ?_
    refine g_putF (ty := .int) (v := .int xb) hx hb hts i_In t_In t_In_ok n_In hown hK.1 hP hS f67 rfl 3 (by decide) (hts _ k_279) (fun _ h9 => h9) rfl hnm rfl (by decide +kernel) rfl rfl (Nat.le_of_ble_eq_true rfl) d_In_init_69 (fun H locs hP hS => ?_)
    obtain ⟨A69, eA69⟩ : ∃ z, z = gU A66 (11, i) (h, .inr (3, [.int (nI mk), .int (nI mt), .int xa, .int xb, .int 0, .int 0, .int 0, .int (-1), .long 60000000000, .int 0, .int 1])) := ⟨_, rfl⟩
    replace hP : gP D classes b A69 H := by rw [eA69]; exact hP
    have f70 : A69 (11, i) = some (h, .inr (3, [.int (nI mk), .int (nI mt), .int xa, .int xb, .int 0, .int 0, .int 0, .int (-1), .long 60000000000, .int 0, .int 1])) := by rw [eA69]; exact gU_s
    have gA69 : gF [11] i A A69 := by rw [eA69]; exact gF_U gA66 (by decide)
    refine lv_aload_n hx hb d_In_init_72 rfl (lv_at hl 1 rfl) ?_
    refine lv_iload hx hb d_In_init_73 (lv_at hl 0 rfl) ?_
    refine lv_iconst (v := 2) hx hb d_In_init_75 (by decide) ?_
    refine lv_icmp_le (tgt := 84) hx hb d_In_init_76 (by decide) (fun h9 => absurd h9 (by decide)) (fun _ => ?_)
    refine lv_iload hx hb d_In_init_79 (lv_at hl 6 rfl) ?_
    refine lv_goto (tgt := 85) hx hb d_In_init_81 (by decide) ?_
    refine g_putF (ty := .int) (v := .int xc) hx hb hts i_In t_In t_In_ok n_In hown hK.1 hP hS f70 rfl 4 (by decide) (hts _ k_281) (fun _ h9 => h9) rfl hnm rfl (by decide +kernel) rfl rfl (Nat.le_of_ble_eq_true rfl) d_In_init_85 (fun H locs hP hS => ?_)
    obtain ⟨A72, eA72⟩ : ∃ z, z = gU A69 (11, i) (h, .inr (3, [.int (nI mk), .int (nI mt), .int xa, .int xb, .int xc, .int 0, .int 0, .int (-1), .long 60000000000, .int 0, .int 1])) := ⟨_, rfl⟩
    replace hP : gP D classes b A72 H := by rw [eA72]; exact hP
    have f73 : A72 (11, i) = some (h, .inr (3, [.int (nI mk), .int (nI mt), .int xa, .int xb, .int xc, .int 0, .int 0, .int (-1), .long 60000000000, .int 0, .int 1])) := by rw [eA72]; exact gU_s
    have gA72 : gF [11] i A A72 := by rw [eA72]; exact gF_U gA69 (by decide)
    refine lv_aload_n hx hb d_In_init_88 rfl (lv_at hl 1 rfl) ?_
    refine lv_iload hx hb d_In_init_89 (lv_at hl 7 rfl) ?_
    refine g_putF (ty := .int) (v := .int (nI dp)) hx hb hts i_In t_In t_In_ok n_In hown hK.1 hP hS f73 rfl 5 (by decide) (hts _ k_283) (fun _ h9 => h9) rfl hnm rfl (by decide +kernel) rfl rfl (Nat.le_of_ble_eq_true rfl) d_In_init_91 (fun H locs hP hS => ?_)
    obtain ⟨A74, eA74⟩ : ∃ z, z = gU A72 (11, i) (h, .inr (3, [.int (nI mk), .int (nI mt), .int xa, .int xb, .int xc, .int (nI dp), .int 0, .int (-1), .long 60000000000, .int 0, .int 1])) := ⟨_, rfl⟩
    replace hP : gP D classes b A74 H := by rw [eA74]; exact hP
    have f75 : A74 (11, i) = some (h, .inr (3, [.int (nI mk), .int (nI mt), .int xa, .int xb, .int xc, .int (nI dp), .int 0, .int (-1), .long 60000000000, .int 0, .int 1])) := by rw [eA74]; exact gU_s
    have gA74 : gF [11] i A A74 := by rw [eA74]; exact gF_U gA72 (by decide)
    refine lv_aload_n hx hb d_In_init_94 rfl (lv_at hl 1 rfl) ?_
    refine lv_iload hx hb d_In_init_95 (lv_at hl 8 rfl) ?_
    refine g_putF (ty := .int) (v := .int fr) hx hb hts i_In t_In t_In_ok n_In hown hK.1 hP hS f75 rfl 6 (by decide) (hts _ k_285) (fun _ h9 => h9) rfl hnm rfl (by decide +kernel) rfl rfl (Nat.le_of_ble_eq_true rfl) d_In_init_97 (fun H locs hP hS => ?_)
    obtain ⟨A76, eA76⟩ : ∃ z, z = gU A74 (11, i) (h, .inr (3, [.int (nI mk), .int (nI mt), .int xa, .int xb, .int xc, .int (nI dp), .int fr, .int (-1), .long 60000000000, .int 0, .int 1])) := ⟨_, rfl⟩
    replace hP : gP D classes b A76 H := by rw [eA76]; exact hP
    have f77 : A76 (11, i) = some (h, .inr (3, [.int (nI mk), .int (nI mt), .int xa, .int xb, .int xc, .int (nI dp), .int fr, .int (-1), .long 60000000000, .int 0, .int 1])) := by rw [eA76]; exact gU_s
    have gA76 : gF [11] i A A76 := by rw [eA76]; exact gF_U gA74 (by decide)
    refine W.widen (k := 0) (n := 0) (by decide) (by decide) ?_
    exact W.vret hx hb hr (fun t ht _ => ⟨⟨A76, rfl, ⟨(by show A76 (11, i) = some (h, .inr (3, [.int (nI mk), .int (nI mt), .int (if 0 < mt % 4 then xa else 0), .int (if 1 < mt % 4 then xb else 0), .int (if 2 < mt % 4 then xc else 0), .int (nI dp), .int fr, .int (nI 0 - 1), .long xNONE, .int (bI false), .int (bI true)])); rw [e4]; exact f77), gA76⟩, show gP D classes b A76 t.heap by rw [ht]; exact hP⟩, hS.F ht⟩) hS.2.2 d_In_init_100
set_option maxHeartbeats 4000000 in
set_option maxRecDepth 100000 in
theorem c_Co_init (l : Launch) {D : va_G} {cI cZ cO cL : ClassId} {b e0 : Nat} {A : gW} {w h : Nat} (f0 : A (1, w) = some (h, .inr (4, [.int 0, .null, .int 0]))) : Met l y_Co_init (Cond.code y_Co_init b_Co_init 1 none :: TT) ({ frames := 1, cells := 0, slots := 0, locals := 12 }) (va_Pc [.ref h] (gI D [(cI, .int), (cZ, .boolean), (cO, .object "java/lang/Object"), (cL, .long)] b e0 A)) (va_Qv (fun A2 : gW => A2 = A) (fun A2 t => gP D classes b A2 t.heap) (fun q => b ≤ q)) 0 0 (fun q => b ≤ q) := by
  refine Met.ofG (own := R_Co) (by decide +kernel) rfl (Nat.le_of_ble_eq_true rfl) ?_
  intro p e s m below meth c ls hx hb hr hlk hml hown hnm hts hI hl
  have hl : lv_has ls 1 [(0, .ref h)] := hl
  have hS : gS b s.heap s.heap [] := va_S.rf
  obtain ⟨hP, hK⟩ := hI
  refine lv_aload_n hx hb d_Co_init_0 rfl (lv_at hl 0 rfl) ?_
  refine W.objInit hx hb hown (hts _ k_34) (hts _ k_21) (hts _ k_22) rfl (by rw [hml]; exact hl.1) rfl d_Co_init_1 (Nat.le_of_ble_eq_true rfl) (Nat.le_of_ble_eq_true rfl) ?_
  refine W.eq (g2 := F0 m 4 ls []) rfl ?_
  refine W.widen (k := 0) (n := 0) (by decide) (by decide) ?_
  exact W.vret hx hb hr (fun t ht _ => ⟨⟨A, rfl, rfl, show gP D classes b A t.heap by rw [ht]; exact hP⟩, hS.F ht⟩) hS.2.2 d_Co_init_4
set_option maxHeartbeats 4000000 in
set_option maxRecDepth 100000 in
theorem c_Li_init (l : Launch) {D : va_G} {cI cZ cO cL : ClassId} {b e0 : Nat} {A : gW} {w h : Nat} (f0 : A (1, w) = some (h, .inr (4, [.int 0, .null, .int 0]))) : Met l y_Li_init (Cond.code y_Li_init b_Li_init 1 none :: TT) ({ frames := 2, cells := 0, slots := 0, locals := 32 }) (va_Pc [.ref h] (gI D [(cI, .int), (cZ, .boolean), (cO, .object "java/lang/Object"), (cL, .long)] b e0 A)) (va_Qv (fun A2 : gW => A2 (1, w) = some (h, .inr (4, [.int 0, .null, .int 0])) ∧ gF [1] w A A2) (fun A2 t => gP D classes b A2 t.heap) (fun q => b ≤ q)) 0 0 (fun q => b ≤ q) := by
  refine Met.ofG (own := R_Li) (by decide +kernel) rfl (Nat.le_of_ble_eq_true rfl) ?_
  intro p e s m below meth c ls hx hb hr hlk hml hown hnm hts hI hl
  have hl : lv_has ls 1 [(0, .ref h)] := hl
  have hS : gS b s.heap s.heap [] := va_S.rf
  obtain ⟨hP, hK⟩ := hI
  refine lv_aload_n hx hb d_Li_init_0 rfl (lv_at hl 0 rfl) ?_
  refine g_cv (B := fun A2 H => gP D classes b A2 H) (g_runI (b := h) (As := []) (rest := []) ⟨hx, hb, hml, hown, hts⟩ (c_Co_init l f0) st_Co_init k_31 ⟨rfl, rfl, by decide, by decide⟩ (gI.pre hK hS hP _) rfl hl.1 rfl (Nat.le_of_ble_eq_true rfl) d_Li_init_1 ⟨by decide, by decide⟩) hS (fun A1 H locs hp2 hP hS => ?_)
  replace hP : gP D classes b A1 H := hP
  refine W.widen (k := 0) (n := 0) (by decide) (by decide) ?_
  rw [hp2] at hP
  refine lv_aload_n hx hb d_Li_init_4 rfl (lv_at hl 0 rfl) ?_
  refine lv_iconst (v := 0) hx hb d_Li_init_5 (by decide) ?_
  refine g_put (ty := .int) (v := .int 0) hx hb hts i_AL t_AL t_AL_ok n_AL hown hK.1 hP hS f0 rfl 0 (by decide) (hts _ k_39) (fun _ h9 => h9) rfl (by decide +kernel) rfl rfl (Nat.le_of_ble_eq_true rfl) d_Li_init_6 (fun H locs hP hS => ?_)
  obtain ⟨A3, eA3⟩ : ∃ z, z = gU A (1, w) (h, .inr (4, [.int 0, .null, .int 0])) := ⟨_, rfl⟩
  replace hP : gP D classes b A3 H := by rw [eA3]; exact hP
  have f4 : A3 (1, w) = some (h, .inr (4, [.int 0, .null, .int 0])) := by rw [eA3]; exact gU_s
  have gA3 : gF [1] w A A3 := by rw [eA3]; exact gF_U gF.rf (by decide)
  refine W.widen (k := 0) (n := 0) (by decide) (by decide) ?_
  exact W.vret hx hb hr (fun t ht _ => ⟨⟨A3, rfl, ⟨f4, gA3⟩, show gP D classes b A3 t.heap by rw [ht]; exact hP⟩, hS.F ht⟩) hS.2.2 d_Li_init_9
set_option maxHeartbeats 4000000 in
set_option maxRecDepth 100000 in
theorem c_AL_init (l : Launch) {D : va_G} {cI cZ cO cL : ClassId} {b e0 : Nat} {A : gW} {w h : Nat} (f0 : A (1, w) = some (h, .inr (4, [.int 0, .null, .int 0]))) (fE : A (3, 0) = some (e0, gE cO)) (kk ci : Nat) (ad : Nat → Nat) : Met l y_AL_init (Cond.code y_AL_init b_AL_init 1 none :: TT) ({ frames := 3, cells := 0, slots := 0, locals := 52 }) (va_Pc [.ref h] (gI D [(cI, .int), (cZ, .boolean), (cO, .object "java/lang/Object"), (cL, .long)] b e0 A)) (va_Qv (fun A2 : gW => rAL cO e0 A2 w kk ci h 0 ad ∧ gF [1] w A A2) (fun A2 t => gP D classes b A2 t.heap) (fun q => b ≤ q)) 0 0 (fun q => b ≤ q) := by
  refine Met.ofG (own := R_AL) (by decide +kernel) rfl (Nat.le_of_ble_eq_true rfl) ?_
  intro p e s m below meth c ls hx hb hr hlk hml hown hnm hts hI hl
  have hl : lv_has ls 1 [(0, .ref h)] := hl
  have hS : gS b s.heap s.heap [] := va_S.rf
  obtain ⟨hP, hK⟩ := hI
  refine lv_aload_n hx hb d_AL_init_0 rfl (lv_at hl 0 rfl) ?_
  refine g_cv (B := fun A2 H => gP D classes b A2 H) (g_runI (b := h) (As := []) (rest := []) ⟨hx, hb, hml, hown, hts⟩ (c_Li_init l f0) st_Li_init k_28 ⟨rfl, rfl, by decide, by decide⟩ (gI.pre hK hS hP _) rfl hl.1 rfl (Nat.le_of_ble_eq_true rfl) d_AL_init_1 ⟨by decide, by decide⟩) hS (fun A1 H locs hp2 hP hS => ?_)
  replace hP : gP D classes b A1 H := hP
  refine W.widen (k := 0) (n := 0) (by decide) (by decide) ?_
  obtain ⟨fL1, gL1⟩ := hp2
  have f3 : A1 (3, 0) = some (e0, .inl (cO, 0, .inr (.inr (.inr (.inr (fun _ => none)))))) := (gL1.at (n := 3) (j := 0) (by decide)).trans fE
  refine lv_aload_n hx hb d_AL_init_4 rfl (lv_at hl 0 rfl) ?_
  refine va_gets hx hb hK.2.2.2.1 hS hown (hts _ k_35) (fun _ h9 => h9) d_AL_init_5 ?_
  refine g_put (ty := (.array (.object "java/lang/Object"))) (v := .ref e0) hx hb hts i_AL t_AL t_AL_ok n_AL hown hK.1 hP hS fL1 rfl 1 (by decide) (hts _ k_37) (fun _ h9 => h9) rfl (by decide +kernel) rfl rfl (Nat.le_of_ble_eq_true rfl) d_AL_init_8 (fun H locs hP hS => ?_)
  obtain ⟨A4, eA4⟩ : ∃ z, z = gU A1 (1, w) (h, .inr (4, [.int 0, .ref e0, .int 0])) := ⟨_, rfl⟩
  replace hP : gP D classes b A4 H := by rw [eA4]; exact hP
  have f5 : A4 (3, 0) = some (e0, .inl (cO, 0, .inr (.inr (.inr (.inr (fun _ => none)))))) := (by rw [eA4]; exact gU_n (gne (show (3 : Nat) ≠ 1 by decide)) : A4 (3, 0) = A1 (3, 0)).trans f3
  have f6 : A4 (1, w) = some (h, .inr (4, [.int 0, .ref e0, .int 0])) := by rw [eA4]; exact gU_s
  have gA4 : gF [1] w A A4 := by rw [eA4]; exact gF_U gL1 (by decide)
  refine W.widen (k := 0) (n := 0) (by decide) (by decide) ?_
  exact W.vret hx hb hr (fun t ht _ => ⟨⟨A4, rfl, ⟨⟨0, e0, 0, fun _ => none, (by rw [nI_0]; exact f6), Or.inl ⟨rfl, rfl⟩, f5, fun i hi => absurd hi (Nat.not_lt_zero i)⟩, gA4⟩, show gP D classes b A4 t.heap by rw [ht]; exact hP⟩, hS.F ht⟩) hS.2.2 d_AL_init_11
end
section
/-! Rows for the growing of a list: a cell that is set while the heap may have grown, names changed, a copy of references. -/
theorem gP.set2 {D : va_G} {cl : List vw_C} {b : Nat} {A : gW} {H H1 : Heap} (h : gP D cl b A H) {n : gN} {a : Nat} {x x' : va_E} (hn : A n = some (a, x)) (hb : b ≤ a) (z : H.size ≤ H1.size) (he : va_at D cl (a, x') H1) (oq : ∀ q : Nat, q < H.size → q ≠ a → H1[q]? = H[q]?) : gP D cl b (gU A n (a, x')) H1 := by
  refine ⟨Nat.le_trans h.1 z, fun k y w hk => ?_, fun k j y w v hk hj => ?_⟩
  · by_cases hkn : k = n
    · subst hkn
      rw [gU_s] at hk
      cases hk
      exact ⟨he, Or.inl hb⟩
    · rw [gU_n hkn] at hk
      obtain ⟨h1, h2⟩ := h.2.1 k y w hk
      exact ⟨h1.kept (oq y h1.lt (fun q => hkn (h.2.2 k n y w x hk (by rw [q]; exact hn)))), h2⟩
  · by_cases hkn : k = n
    · by_cases hjn : j = n
      · rw [hkn, hjn]
      · subst hkn
        rw [gU_s] at hk
        rw [gU_n hjn] at hj
        cases hk
        exact absurd (h.2.2 j k a v x hj hn) hjn
    · by_cases hjn : j = n
      · subst hjn
        rw [gU_s] at hj
        rw [gU_n hkn] at hk
        cases hj
        exact absurd (h.2.2 k j a w x hk hn) hkn
      · rw [gU_n hkn] at hk
        rw [gU_n hjn] at hj
        exact h.2.2 k j y w v hk hj
/-- the cell named n' is now named n -/
def gRen (A : gW) (n n' : gN) : gW := fun k => if k = n then A n' else if k = n' then none else A k
theorem gP.ren {D : va_G} {cl : List vw_C} {b : Nat} {A : gW} {H : Heap} (h : gP D cl b A H) (n n' : gN) : gP D cl b (gRen A n n') H := by
  have key : ∀ k a x, gRen A n n' k = some (a, x) → ∃ k0, A k0 = some (a, x) ∧ (k = n ∧ k0 = n' ∨ k ≠ n ∧ k ≠ n' ∧ k0 = k) := by
    intro k a x hk
    unfold gRen at hk
    by_cases h1 : k = n
    · rw [if_pos h1] at hk
      exact ⟨n', hk, Or.inl ⟨h1, rfl⟩⟩
    · rw [if_neg h1] at hk
      by_cases h2 : k = n'
      · rw [if_pos h2] at hk; cases hk
      · rw [if_neg h2] at hk
        exact ⟨k, hk, Or.inr ⟨h1, h2, rfl⟩⟩
  refine ⟨h.1, fun k a x hk => ?_, fun k j a x y hk hj => ?_⟩
  · obtain ⟨k0, h1, -⟩ := key k a x hk
    exact h.2.1 k0 a x h1
  · obtain ⟨k0, h1, h2⟩ := key k a x hk
    obtain ⟨j0, h3, h4⟩ := key j a y hj
    have e := h.2.2 k0 j0 a x y h1 h3
    rcases h2 with ⟨h2, h5⟩ | ⟨h2, h5, h6⟩ <;> rcases h4 with ⟨h4, h7⟩ | ⟨h4, h7, h8⟩
    · rw [h2, h4]
    · exact absurd (h8.symm.trans (e.symm.trans h5)) h7
    · exact absurd (h6.symm.trans (e.trans h7)) h5
    · rw [← h6, ← h8]; exact e
/-- an object of ours may lie in a row of Objects -/
theorem g_any {D : va_G} {tys : List (ClassId × FieldType)} {b e0 : Nat} {s : State} {H0 H : Heap} {A : gW} (hK : gK D tys b e0 s H0) (hP : gP D classes b A H) {n : gN} {a ci : Nat} {fs : List Value} (hn : A n = some (a, .inr (ci, fs))) (hci : ci = 2 ∨ ci = 3) : va_Any "java/lang/Object" s H a := by
  rcases hci with rfl | rfl
  · exact va_rAny (q0 := 0) (r := (R_Ru, F_Ru, 8)) hK.1 (hP.one hn) rfl rfl (fun comp c0 h1 h2 => vb_asgC (hK.2.1 (.castable R_Ru R_Ob) (by decide +kernel)) comp c0 h1 h2)
  · exact va_rAny (q0 := 0) (r := (R_In, F_In, 11)) hK.1 (hP.one hn) rfl rfl (fun comp c0 h1 h2 => vb_asgC (hK.2.1 (.castable R_In R_Ob) (by decide +kernel)) comp c0 h1 h2)
section GCP
variable {p : Program} {l : Launch} {e : Env} {R : Room} {s : State} {m : MethodId} {args : Array Value} {below : List Frame} {meth : Method} {c : Code} {H : Heap} {cells slots : Nat} {Q : State → Prop}
variable {cc : ByteArray} {pc : Nat} {ls : Array Slot} {rest : List Value} {D : va_G} {cl : List vw_C} {b : Nat} {tys : List (ClassId × FieldType)} {A : gW} {H0 : Heap}
theorem g_copy (hexec : p.tables.exec = Jvm.exec) (hb : c.code = cc) (hml : c.maxLocals = ls.size) {own : String} {index : Nat} (hown : s.vm.findClass own = some m.cls) (hlink : (Cond.methodLink own index arraycopyName).before args s = true) (hnat : (Cond.native arraycopyName).before args s = true) (hstat : (Cond.static arraycopyName).before args s = true) (hini : (Cond.initialized "java/lang/System").before args s = true)
    (hK : va_K D cl tys s) (hP : gP D cl b A H) (hS : gS b H0 H []) (t0 : Nat) {n0 n1 : gN} {a0 a : Nat} {cO : ClassId} {N0 N1 : Nat} {f g : Nat → Option Nat} {E : String} (ha0 : A n0 = some (a0, .inl (cO, N0, .inr (.inr (.inr (.inr f)))))) (ha1 : A n1 = some (a, .inl (cO, N1, .inr (.inr (.inr (.inr g)))))) (hne : n0 ≠ n1) (h0 : 0 < N0) (h1 : 0 < N1) (ht0 : tys[t0]? = some (cO, .object E))
    {k : Nat} (hk0 : k ≤ N0) (hk1 : k ≤ N1) (hk : k < 2 ^ 31) (hel : ∀ i : Nat, i < k → ∀ y : Nat, f i = some y → va_Any E s H y)
    (hframes : 1 ≤ R.frames) (hlocals : (rest.map fun v => v.category).sum + (nativeFrameWords "java/lang/System" "arraycopy" 5 + 11) ≤ R.locals) (hdg : decode cc pc = .ok (.invokestatic index, 3))
    (kk : ∀ (H1 : Heap) (locs1 : List Loc), gP D cl b (gU A n1 (a, .inl (cO, N1, .inr (.inr (.inr (.inr (va_cpy f g 0 0 k))))))) H1 → gS b H0 H1 locs1 → W p l e R s m args below meth c H1 locs1 cells slots Q (F0 m (pc + 3) ls rest)) : W p l e R s m args below meth c H [] cells slots Q (F0 m pc ls (.int (nI k) :: .int 0 :: .ref a :: .int 0 :: .ref a0 :: rest)) := by
  have hb0 : b ≤ a0 := hP.qa ha0 h0
  have hb1 : b ≤ a := hP.qa ha1 h1
  have hap : a0 ≠ a := hP.apart ha0 ha1 hne
  have hD : va_D (fun q => q = a0 ∨ q = a) [(a0, .inl (cO, N0, .inr (.inr (.inr (.inr f))))), (a, .inl (cO, N1, .inr (.inr (.inr (.inr g)))))] := by
    refine ⟨fun i j p q hi hj hpq => ?_, fun k q hk => ?_⟩
    · match i, j, hi, hj with
      | 0, 0, _, _ => rfl
      | 1, 1, _, _ => rfl
      | 0, 1, hi, hj => cases hi; cases hj; exact absurd hpq hap
      | 1, 0, hi, hj => cases hi; cases hj; exact absurd hpq.symm hap
      | i + 2, _, hi, _ => simp at hi
      | _, j + 2, _, hj => simp at hj
    · match k, hk with
      | 0, hk => cases hk; exact Or.inl rfl
      | 1, hk => cases hk; exact Or.inr rfl
      | k + 2, hk => simp at hk
  have hz : (0 : Int32).toNatClampNeg = 0 := by decide
  have hc : (nI k).toNatClampNeg = k := nI_clamp hk
  refine va_copyM (A := fun q => q = a0 ∨ q = a) (H0 := H) hexec hb hml hown hlink hnat hstat hini hK (hP.two ha0 ha1) hD va_S.rf 0 1 t0 t0 rfl rfl ht0 ht0 (by decide) (by decide) (nI_pos hk) (by rw [hz, hc]; omega) (by rw [hz, hc]; omega) (fun i hi y hy => hel i (by rw [hc] at hi; exact hi) y (by rw [hz, Nat.zero_add] at hy; exact hy)) hframes hlocals hdg (fun H1 locs1 hP1 hD1 hS1 => ?_)
  rw [hz, hc] at hP1
  have q0 : H1[a0]? = H[a0]? := (hP1 0 (a0, .inl (cO, N0, .inr (.inr (.inr (.inr f))))) rfl).trans ((hP.two ha0 ha1) 0 _ rfl).symm
  refine kk H1 locs1 (hP.set2 ha1 hb1 hS1.1 (hP1 1 _ rfl) (fun q hq hqa => ?_)) ⟨Nat.le_trans hS.1 hS1.1, fun q hq hn => ?_, fun q hq => ?_⟩
  · by_cases e0 : q = a0
    · rw [e0]; exact q0
    · exact hS1.2.1 q hq (fun z => z.elim e0 hqa)
  · exact (hS1.2.1 q (Nat.lt_of_lt_of_le hq hS.1) (fun z => hn (z.elim (fun e => by rw [e]; exact hb0) (fun e => by rw [e]; exact hb1)))).trans (hS.2.1 q hq hn)
  · exact (hS1.2.2 q hq).elim (fun e => by show b ≤ q.base; rw [e]; exact hb0) (fun e => by show b ≤ q.base; rw [e]; exact hb1)
end GCP
theorem grw {n : Nat} (h2 : 2 ≤ n) (h : n ≤ 1000) : nI n + (if nI 1 < nI (n / 2) then nI (n / 2) else nI 1) = nI (n + n / 2) := by
  by_cases c : 1 < n / 2
  · rw [if_pos (nI_lt c (by omega)), nI_add]
  · rw [if_neg (nI_nlt (by omega) (by decide)), nI_add]
    congr 1
    omega
theorem mi1 {C : String} {a a' : Nat} {U : State} (h : va_Mi C a U) (h' : va_Mi C a' U) : a = a' := by
  obtain ⟨c, k, h1, h2, h3⟩ := h
  obtain ⟨c', k', g1, g2, g3⟩ := h'
  cases h1.symm.trans g1
  cases h2.symm.trans g2
  exact Option.some.inj (h3.symm.trans g3)
end
section
theorem gI.preM {D : va_G} {tys : List (ClassId × FieldType)} {b e0 : Nat} {A : gW} {s : State} {H : Heap} {locs : List Loc} {C : String} {mi : Nat} (hK : gK D tys b e0 s s.heap) (hS : gS b s.heap H locs) (hP : gP D classes b A H) (hm : va_Mi C mi s) (As : List Value) : PreS s H (va_Pc As (fun U => gI D tys b e0 A U ∧ va_Mi C mi U)) As :=
  ⟨fun a U g mk q => ⟨q.1, ((gI.pre hK hS hP As).1 a U g mk ⟨q.1, q.2.1⟩).2, va_Mi.moved (u := U) (U := U.calling g mk a) (Vm.Alike.refl U.vm) q.2.2⟩, fun U hU hW => ⟨rfl, ((gI.pre hK hS hP As).2 U hU hW).2, va_Mi.moved hW.alike hm⟩⟩
set_option maxHeartbeats 4000000 in
set_option maxRecDepth 100000 in
theorem c_As_newLength (l : Launch)  {n : Nat} (h2 : 2 ≤ n) (h3 : n ≤ 240) : Met l y_As_newLength (Cond.code y_As_newLength b_As_newLength 4 (some .int) :: TT) ({ frames := 1, cells := 0, slots := 0, locals := 14 }) (va_Pc [.int (nI n), .int (nI 1), .int (nI (n / 2))] (fun _ => True)) (vp_Si (fun r => r = nI (n + n / 2))) 0 0 (fun _ => False) := by
  refine Met.ofG (own := R_As) (by decide +kernel) rfl (Nat.le_of_ble_eq_true rfl) ?_
  intro p e s m below meth c ls hx hb hr hlk hml hown hnm hts hI hl
  have hl : lv_has ls 4 [(0, .int (nI n)), (1, .int (nI 1)), (2, .int (nI (n / 2)))] := hl
  refine lv_iload_n hx hb d_As_newLength_0 rfl (lv_at hl 0 rfl) ?_
  refine lv_iload_n hx hb d_As_newLength_1 rfl (lv_at hl 1 rfl) ?_
  refine lv_iload_n hx hb d_As_newLength_2 rfl (lv_at hl 2 rfl) ?_
  refine va_mmax hx hb (hml.trans hl.1.symm) hown (hts _ k_180) (hts _ k_181) (hts _ k_9) (hts _ k_182) (by decide) (Nat.le_of_ble_eq_true rfl) (by decide) (by decide) d_As_newLength_3 ?_
  refine lv_iadd hx hb d_As_newLength_6 ?_
  rw [grw h2 (by omega)]
  refine lv_istore_n (lv' := [(3, .int (nI (n + n / 2))), (0, .int (nI n)), (1, .int (nI 1)), (2, .int (nI (n / 2)))]) hx hb d_As_newLength_7 rfl hl (by decide) rfl (fun ls hl => ?_)
  refine lv_iconst (v := 0) hx hb d_As_newLength_8 (by decide) ?_
  refine lv_iload_n hx hb d_As_newLength_9 rfl (lv_at hl 0 rfl) ?_
  refine lv_icmp_ge (tgt := 21) hx hb d_As_newLength_10 (by decide) (fun h9 => absurd h9 (nI_nle (show 0 < n + n / 2 by omega) (by omega))) (fun _ => ?_)
  refine lv_iload_n hx hb d_As_newLength_13 rfl (lv_at hl 0 rfl) ?_
  refine lv_ldc (v := 2147483639) hx hb hown (hts _ k_183) d_As_newLength_14 ?_
  refine lv_icmp_gt (tgt := 21) hx hb d_As_newLength_16 (by decide) (fun h9 => absurd h9 (nI_nlt (a := 2147483639) (b := n + n / 2) (by omega) (by decide))) (fun _ => ?_)
  refine lv_iload_n hx hb d_As_newLength_19 rfl (lv_at hl 0 rfl) ?_
  exact W.iret hx hb hr (fun t ht _ => ⟨_, rfl, rfl, ht⟩) (fun _ h => nomatch h) d_As_newLength_20
set_option maxHeartbeats 4000000 in
set_option maxRecDepth 100000 in
theorem c_Ar_copyOf3 (l : Launch) {D : va_G} {cI cZ cO cL : ClassId} {b e0 : Nat} {A : gW} {w a n k2 kk ci mi : Nat} {f : Nat → Option Nat} {ad : Nat → Nat} (fA : A (2, w) = some (a, .inl (cO, n, .inr (.inr (.inr (.inr f)))))) (hn0 : 0 < n) (hnk : n ≤ k2) (hk2 : k2 ≤ 240) (hkk : kk ≠ 12) (hci : ci = 2 ∨ ci = 3) (hfi : ∀ i, i < n → f i = some (ad i)) (hel : ∀ i, i < n → ∃ fs, A (kk, i) = some (ad i, .inr (ci, fs))) : Met l y_Ar_copyOf3 (Cond.code y_Ar_copyOf3 b_Ar_copyOf3 4 (some (.array (.object "java/lang/Object"))) :: TT) ({ frames := 1, cells := 1, slots := 240, locals := 40 }) (va_Pc [.ref a, .int (nI k2), .ref mi] (fun U => gI D [(cI, .int), (cZ, .boolean), (cO, .object "java/lang/Object"), (cL, .long)] b e0 A U ∧ va_Mi "[Ljava/lang/Object;" mi U)) (va_Qr (fun _ : gW => True) (fun A2 r t => gP D classes b A2 t.heap ∧ A2 (12, w) = some (r, .inl (cO, k2, .inr (.inr (.inr (.inr (va_cpy f (fun _ => none) 0 0 n)))))) ∧ gF [12] w A A2) (fun q => b ≤ q)) 1 240 (fun q => b ≤ q) := by
  refine Met.ofG (own := R_Ar) (by decide +kernel) rfl (Nat.le_of_ble_eq_true rfl) ?_
  intro p e s m below meth c ls hx hb hr hlk hml hown hnm hts hI hl
  have hl : lv_has ls 4 [(0, .ref a), (1, .int (nI k2)), (2, .ref mi)] := hl
  have hS : gS b s.heap s.heap [] := va_S.rf
  obtain ⟨⟨hP, hK⟩, hmi⟩ := hI
  obtain ⟨kA9, comp9, -, -, -, hOb⟩ := (hK.1.2 2 _ rfl).2
  refine lv_aload_n hx hb d_Ar_copyOf3_0 rfl (lv_at hl 2 rfl) ?_
  refine va_ldcM hx hb hown (hts _ k_203) hmi d_Ar_copyOf3_1 ?_
  refine lv_acmp_ne (rx := some mi) (ry := some mi) (tgt := 13) hx hb d_Ar_copyOf3_3 (by decide) (fun h9 => absurd rfl h9) (fun _ => ?_)
  refine lv_iload_n hx hb d_Ar_copyOf3_6 rfl (lv_at hl 1 rfl) ?_
  refine g_newq hx hb hown (hts _ k_205) hK.2.2.1 hP hS (12, w) hOb (nI_pos (show k2 < 2 ^ 31 by omega)) (nI_clamp (show k2 < 2 ^ 31 by omega)) (by omega) (by decide) (by show 0 + k2 ≤ 240; omega) d_Ar_copyOf3_7 (fun q H hP hS ho hz hq => ?_)
  refine W.widen (k := 1) (n := 240) (by decide) (by omega) ?_
  obtain ⟨A1, eA1⟩ : ∃ z, z = gU A (12, w) (q, .inl (cO, k2, .inr (.inr (.inr (.inr (fun _ => none)))))) := ⟨_, rfl⟩
  replace hP : gP D classes b A1 H := by rw [eA1]; exact hP
  have f2 : A1 (2, w) = some (a, .inl (cO, n, .inr (.inr (.inr (.inr f))))) := (by rw [eA1]; exact gU_n (gne (show (2 : Nat) ≠ 12 by decide)) : A1 (2, w) = A (2, w)).trans fA
  have f3 : A1 (12, w) = some (q, .inl (cO, k2, .inr (.inr (.inr (.inr (fun _ => none)))))) := by rw [eA1]; exact gU_s
  have gA1 : gF [12] w A A1 := by rw [eA1]; exact gF_U gF.rf (by decide)
  refine lv_goto (tgt := 24) hx hb d_Ar_copyOf3_10 (by decide) ?_
  refine lv_astore_n (lv' := [(3, .ref q), (0, .ref a), (1, .int (nI k2)), (2, .ref mi)]) hx hb d_Ar_copyOf3_24 rfl hl (by decide) rfl (fun ls hl => ?_)
  refine lv_aload_n hx hb d_Ar_copyOf3_25 rfl (lv_at hl 1 rfl) ?_
  refine lv_iconst (v := 0) hx hb d_Ar_copyOf3_26 (by decide) ?_
  refine lv_aload_n hx hb d_Ar_copyOf3_27 rfl (lv_at hl 0 rfl) ?_
  refine lv_iconst (v := 0) hx hb d_Ar_copyOf3_28 (by decide) ?_
  refine lv_aload_n hx hb d_Ar_copyOf3_29 rfl (lv_at hl 1 rfl) ?_
  refine g_alen (v := nI (n)) hx hb hK.1 hP 2 f2 rfl rfl d_Ar_copyOf3_30 ?_
  refine lv_iload_n hx hb d_Ar_copyOf3_31 rfl (lv_at hl 2 rfl) ?_
  refine va_mmin hx hb (hml.trans hl.1.symm) hown (hts _ k_206) (hts _ k_207) (hts _ k_9) (hts _ k_208) (by decide) (Nat.le_of_ble_eq_true rfl) (by decide) (by decide) d_Ar_copyOf3_32 ?_
  rw [if_neg (nI_nlt (show n ≤ k2 by omega) (by omega))]
  refine g_copy hx hb (hml.trans hl.1.symm) hown (hts _ k_209) (hts _ k_211) (hts _ k_210) (hts _ k_11) hK.1 hP hS 2 f2 f3 (gne (show (2 : Nat) ≠ 12 by decide)) (by omega) (by omega) rfl (k := n) (Nat.le_refl n) (by omega) (by omega) (fun i hi y hy => by obtain ⟨fs, hfs⟩ := hel i hi; rw [hfi i hi] at hy; cases hy; exact g_any hK hP ((by rw [eA1]; exact gU_n (gne (show kk ≠ 12 by omega)) : A1 (kk, i) = A (kk, i)).trans hfs) hci) (by decide) (Nat.le_of_ble_eq_true rfl) d_Ar_copyOf3_35 (fun H locs hP hS => ?_)
  obtain ⟨A4, eA4⟩ : ∃ z, z = gU A1 (12, w) (q, .inl (cO, k2, .inr (.inr (.inr (.inr (va_cpy f (fun _ => none) 0 0 n)))))) := ⟨_, rfl⟩
  replace hP : gP D classes b A4 H := by rw [eA4]; exact hP
  have f5 : A4 (2, w) = some (a, .inl (cO, n, .inr (.inr (.inr (.inr f))))) := (by rw [eA4]; exact gU_n (gne (show (2 : Nat) ≠ 12 by decide)) : A4 (2, w) = A1 (2, w)).trans f2
  have f6 : A4 (12, w) = some (q, .inl (cO, k2, .inr (.inr (.inr (.inr (va_cpy f (fun _ => none) 0 0 n)))))) := by rw [eA4]; exact gU_s
  have gA4 : gF [12] w A A4 := by rw [eA4]; exact gF_U gA1 (by decide)
  refine lv_aload_n hx hb d_Ar_copyOf3_38 rfl (lv_at hl 0 rfl) ?_
  refine W.widen (k := 1) (n := 240) (by decide) (by decide) ?_
  exact W.aret hx hb hr (Or.inr ⟨_, rfl⟩) (Or.inr ⟨_, rfl⟩) (fun t ht _ => ⟨⟨A4, q, rfl, trivial, ⟨(show gP D classes b A4 t.heap by rw [ht]; exact hP), f6, gA4⟩⟩, hS.F ht⟩) hS.2.2 d_Ar_copyOf3_39
set_option maxHeartbeats 4000000 in
set_option maxRecDepth 100000 in
theorem c_Ar_copyOf (l : Launch) {D : va_G} {cI cZ cO cL : ClassId} {b e0 : Nat} {A : gW} {w a n k2 kk ci : Nat} {f : Nat → Option Nat} {ad : Nat → Nat} (fA : A (2, w) = some (a, .inl (cO, n, .inr (.inr (.inr (.inr f)))))) (hn0 : 0 < n) (hnk : n ≤ k2) (hk2 : k2 ≤ 240) (hkk : kk ≠ 12) (hci : ci = 2 ∨ ci = 3) (hfi : ∀ i, i < n → f i = some (ad i)) (hel : ∀ i, i < n → ∃ fs, A (kk, i) = some (ad i, .inr (ci, fs))) : Met l y_Ar_copyOf (Cond.code y_Ar_copyOf b_Ar_copyOf 2 (some (.array (.object "java/lang/Object"))) :: TT) ({ frames := 2, cells := 1, slots := 240, locals := 63 }) (va_Pc [.ref a, .int (nI k2)] (gI D [(cI, .int), (cZ, .boolean), (cO, .object "java/lang/Object"), (cL, .long)] b e0 A)) (va_Qr (fun _ : gW => True) (fun A2 r t => gP D classes b A2 t.heap ∧ A2 (12, w) = some (r, .inl (cO, k2, .inr (.inr (.inr (.inr (va_cpy f (fun _ => none) 0 0 n)))))) ∧ gF [12] w A A2) (fun q => b ≤ q)) 1 240 (fun q => b ≤ q) := by
  refine Met.ofG (own := R_Ar) (by decide +kernel) rfl (Nat.le_of_ble_eq_true rfl) ?_
  intro p e s m below meth c ls hx hb hr hlk hml hown hnm hts hI hl
  have hl : lv_has ls 2 [(0, .ref a), (1, .int (nI k2))] := hl
  have hS : gS b s.heap s.heap [] := va_S.rf
  obtain ⟨hP, hK⟩ := hI
  obtain ⟨mi, hmi⟩ := hK.2.2.2.2.2
  refine lv_aload_n hx hb d_Ar_copyOf_0 rfl (lv_at hl 0 rfl) ?_
  refine lv_iload_n hx hb d_Ar_copyOf_1 rfl (lv_at hl 1 rfl) ?_
  refine lv_aload_n hx hb d_Ar_copyOf_2 rfl (lv_at hl 0 rfl) ?_
  refine va_getC hx hb (hml.trans hl.1.symm) hown (hts _ k_190) (va_Dc.use hK.2.2.2.2.1) (hts _ k_618) (hts _ k_191) (hts _ k_199) hmi ⟨_, (hP.2.1 _ _ _ fA).1, rfl, va_nmO (hK.1.2 2 _ rfl).2 (by decide)⟩ (by decide) (Nat.le_of_ble_eq_true rfl) d_Ar_copyOf_3 ?_
  refine g_cr (B := fun A2 r H => gP D classes b A2 H ∧ A2 (12, w) = some (r, .inl (cO, k2, .inr (.inr (.inr (.inr (va_cpy f (fun _ => none) 0 0 n)))))) ∧ gF [12] w A A2) (g_runS (As := [.ref a, .int (nI k2), .ref mi]) (rest := []) ⟨hx, hb, hml, hown, hts⟩ (c_Ar_copyOf3 l (mi := mi) fA hn0 hnk hk2 hkk hci hfi hel) st_Ar_copyOf3 k_200 ⟨rfl, rfl, by decide, by decide⟩ (gI.preM hK hS hP hmi _) rfl hl.1 rfl (Nat.le_of_ble_eq_true rfl) d_Ar_copyOf_6 ⟨by decide, by decide⟩) hS (fun A1 r H locs _ hp2 hS => ?_)
  obtain ⟨hP, fN, gN1⟩ := hp2
  refine W.widen (k := 1) (n := 240) (by decide) (by decide) ?_
  have f3 : A1 (2, w) = some (a, .inl (cO, n, .inr (.inr (.inr (.inr f))))) := (gN1.at (n := 2) (j := w) (by decide)).trans fA
  refine W.widen (k := 1) (n := 240) (by decide) (by decide) ?_
  exact W.aret hx hb hr (Or.inr ⟨_, rfl⟩) (Or.inr ⟨_, rfl⟩) (fun t ht _ => ⟨⟨A1, r, rfl, trivial, ⟨(show gP D classes b A1 t.heap by rw [ht]; exact hP), fN, gN1⟩⟩, hS.F ht⟩) hS.2.2 d_Ar_copyOf_9
end
section
theorem shr1 {n : Nat} (h : n < 2 ^ 31) : nI n >>> ((1 : Int32) &&& 31) = nI (n / 2) := by
  have k := pk_shrN h ((1 : Int32) &&& 31) 1 (by decide)
  rw [Nat.pow_one] at k
  exact k
theorem sub1 (n : Nat) : nI (n + 1) - nI n = nI 1 := by
  have k := pk_sub (a := n + 1) (b := n) (by omega)
  rw [Nat.add_sub_cancel_left] at k
  exact k
theorem max10 : (if (10 : Int32) < nI 1 then nI 1 else 10) = nI 10 := by decide
theorem gRen_n {A : gW} {n n' : gN} : gRen A n n' n = A n' := if_pos rfl
theorem gRen_o {A : gW} {n n' k : gN} (h1 : k ≠ n) (h2 : k ≠ n') : gRen A n n' k = A k := by unfold gRen; rw [if_neg h1, if_neg h2]
theorem gF.mono {ks ks' : List Nat} {i : Nat} {A A' : gW} (h : gF ks i A A') (hs : ∀ k ∈ ks, k ∈ ks') : gF ks' i A A' := fun k hk => h k (fun q => hk ⟨hs _ q.1, q.2⟩)
theorem gF.trans {ks : List Nat} {i : Nat} {A B C : gW} (h : gF ks i A B) (h2 : gF ks i B C) : gF ks i A C := fun k hk => (h2 k hk).trans (h k hk)
theorem gF.ren {ks : List Nat} {i a c : Nat} {A A1 : gW} (h : gF ks i A A1) (ha : a ∈ ks) (hc : c ∈ ks) : gF ks i A (gRen A1 (a, i) (c, i)) := fun k hk => by
  rw [gRen_o (fun e => hk (by rw [e]; exact ⟨ha, rfl⟩)) (fun e => hk (by rw [e]; exact ⟨hc, rfl⟩))]
  exact h k hk
theorem cpy_lt {f g : Nat → Option Nat} {n i : Nat} (h : i < n) : va_cpy f g 0 0 n i = f i := by
  rw [pk_cpy_in (Nat.zero_le _) (by omega)]
  congr 1
  omega
set_option maxHeartbeats 4000000 in
set_option maxRecDepth 100000 in
theorem c_AL_growI0 (l : Launch) {D : va_G} {cI cZ cO cL : ClassId} {b e0 : Nat} {A : gW} {w h : Nat} {mo : Int32} (f : Nat → Option Nat) (fL : A (1, w) = some (h, .inr (4, [.int mo, .ref e0, .int (nI 0)]))) (fE : A (3, 0) = some (e0, .inl (cO, 0, .inr (.inr (.inr (.inr fun _ => none)))))) : Met l y_AL_growI (Cond.code y_AL_growI b_AL_growI 4 (some (.array (.object "java/lang/Object"))) :: TT) ({ frames := 3, cells := 1, slots := 240, locals := 84 }) (va_Pc [.ref h, .int (nI 1)] (gI D [(cI, .int), (cZ, .boolean), (cO, .object "java/lang/Object"), (cL, .long)] b e0 A)) (va_Qr (fun _ : gW => True) (fun A2 r t => gP D classes b A2 t.heap ∧ A2 (1, w) = some (h, .inr (4, [.int mo, .ref r, .int (nI 0)])) ∧ (∃ (cap2 : Nat) (f2 : Nat → Option Nat), A2 (2, w) = some (r, .inl (cO, cap2, .inr (.inr (.inr (.inr f2))))) ∧ 2 ≤ cap2 ∧ cap2 ≤ 240 ∧ ∀ i, i < 0 → f2 i = f i) ∧ gF [1, 2, 12] w A A2) (fun q => b ≤ q)) 1 240 (fun q => b ≤ q) := by
  refine Met.ofG (own := R_AL) (by decide +kernel) rfl (Nat.le_of_ble_eq_true rfl) ?_
  intro p e s m below meth c ls hx hb hr hlk hml hown hnm hts hI hl
  have hl : lv_has ls 4 [(0, .ref h), (1, .int (nI 1))] := hl
  have hS : gS b s.heap s.heap [] := va_S.rf
  obtain ⟨hP, hK⟩ := hI
  obtain ⟨kA9, comp9, -, -, -, hOb⟩ := (hK.1.2 2 _ rfl).2
  refine lv_aload_n hx hb d_AL_growI_0 rfl (lv_at hl 0 rfl) ?_
  refine g_get hx hb hts i_AL hown hK.1 hP fL rfl 1 (by decide) (hts _ k_37) (fun _ h9 => h9) rfl d_AL_growI_1 ?_
  refine g_alen (v := nI (0)) hx hb hK.1 hP 2 fE rfl rfl d_AL_growI_4 ?_
  refine lv_istore_n (lv' := [(2, .int (nI (0))), (0, .ref h), (1, .int (nI 1))]) hx hb d_AL_growI_5 rfl hl (by decide) rfl (fun ls hl => ?_)
  refine lv_iload_n hx hb d_AL_growI_6 rfl (lv_at hl 0 rfl) ?_
  refine lv_if_gt (tgt := 20) hx hb d_AL_growI_7 (by decide) (fun h9 => absurd h9 (by decide)) (fun _ => ?_)
  refine lv_aload_n hx hb d_AL_growI_10 rfl (lv_at hl 1 rfl) ?_
  refine g_get hx hb hts i_AL hown hK.1 hP fL rfl 1 (by decide) (hts _ k_37) (fun _ h9 => h9) rfl d_AL_growI_11 ?_
  refine va_gets hx hb hK.2.2.2.1 hS hown (hts _ k_35) (fun _ h9 => h9) d_AL_growI_14 ?_
  refine lv_acmp_eq (rx := some e0) (ry := some e0) (tgt := 45) hx hb d_AL_growI_17 (by decide) (fun _ => ?_) (fun h9 => absurd rfl h9)
  refine lv_aload_n hx hb d_AL_growI_45 rfl (lv_at hl 1 rfl) ?_
  refine lv_bipush (v := 10) hx hb d_AL_growI_46 (by decide) ?_
  refine lv_iload_n hx hb d_AL_growI_48 rfl (lv_at hl 2 rfl) ?_
  refine va_mmax hx hb (hml.trans hl.1.symm) hown (hts _ k_212) (hts _ k_181) (hts _ k_9) (hts _ k_182) (by decide) (Nat.le_of_ble_eq_true rfl) (by decide) (by decide) d_AL_growI_49 ?_
  rw [max10]
  refine g_newq hx hb hown (hts _ k_213) hK.2.2.1 hP hS (2, w) hOb (nI_pos (show 10 < 2 ^ 31 by decide)) (nI_clamp (show 10 < 2 ^ 31 by decide)) (by decide) (by decide) (by decide) d_AL_growI_52 (fun q2 H hP hS ho hz hq => ?_)
  refine W.widen (k := 1) (n := 240) (by decide) (by decide) ?_
  obtain ⟨A3, eA3⟩ : ∃ z, z = gU A (2, w) (q2, .inl (cO, 10, .inr (.inr (.inr (.inr (fun _ => none)))))) := ⟨_, rfl⟩
  replace hP : gP D classes b A3 H := by rw [eA3]; exact hP
  have f4 : A3 (1, w) = some (h, .inr (4, [.int mo, .ref e0, .int (nI 0)])) := (by rw [eA3]; exact gU_n (gne (show (1 : Nat) ≠ 2 by decide)) : A3 (1, w) = A (1, w)).trans fL
  have f5 : A3 (3, 0) = some (e0, .inl (cO, 0, .inr (.inr (.inr (.inr (fun _ => none)))))) := (by rw [eA3]; exact gU_n (gne (show (3 : Nat) ≠ 2 by decide)) : A3 (3, 0) = A (3, 0)).trans fE
  have f6 : A3 (2, w) = some (q2, .inl (cO, 10, .inr (.inr (.inr (.inr (fun _ => none)))))) := by rw [eA3]; exact gU_s
  have gA3 : gF [1, 2, 12] w A A3 := by rw [eA3]; exact gF_U gF.rf (by decide)
  refine lv_dup_x1 hx hb d_AL_growI_55 rfl rfl ?_
  refine g_put (ty := (.array (.object "java/lang/Object"))) (v := .ref q2) hx hb hts i_AL t_AL t_AL_ok n_AL hown hK.1 hP hS f4 rfl 1 (by decide) (hts _ k_37) (fun _ h9 => h9) rfl (by decide +kernel) rfl rfl (Nat.le_of_ble_eq_true rfl) d_AL_growI_56 (fun H locs hP hS => ?_)
  obtain ⟨A7, eA7⟩ : ∃ z, z = gU A3 (1, w) (h, .inr (4, [.int mo, .ref q2, .int (nI 0)])) := ⟨_, rfl⟩
  replace hP : gP D classes b A7 H := by rw [eA7]; exact hP
  have f8 : A7 (3, 0) = some (e0, .inl (cO, 0, .inr (.inr (.inr (.inr (fun _ => none)))))) := (by rw [eA7]; exact gU_n (gne (show (3 : Nat) ≠ 1 by decide)) : A7 (3, 0) = A3 (3, 0)).trans f5
  have f9 : A7 (2, w) = some (q2, .inl (cO, 10, .inr (.inr (.inr (.inr (fun _ => none)))))) := (by rw [eA7]; exact gU_n (gne (show (2 : Nat) ≠ 1 by decide)) : A7 (2, w) = A3 (2, w)).trans f6
  have f10 : A7 (1, w) = some (h, .inr (4, [.int mo, .ref q2, .int (nI 0)])) := by rw [eA7]; exact gU_s
  have gA7 : gF [1, 2, 12] w A A7 := by rw [eA7]; exact gF_U gA3 (by decide)
  refine W.widen (k := 1) (n := 240) (by decide) (by decide) ?_
  exact W.aret hx hb hr (Or.inr ⟨_, rfl⟩) (Or.inr ⟨_, rfl⟩) (fun t ht _ => ⟨⟨A7, q2, rfl, trivial, ⟨(show gP D classes b A7 t.heap by rw [ht]; exact hP), f10, ⟨10, _, f9, by decide, by decide, fun i hi => absurd hi (Nat.not_lt_zero i)⟩, gA7⟩⟩, hS.F ht⟩) hS.2.2 d_AL_growI_59
set_option maxHeartbeats 4000000 in
set_option maxRecDepth 100000 in
theorem c_AL_growI (l : Launch) {D : va_G} {cI cZ cO cL : ClassId} {b e0 : Nat} {A : gW} {w h q n kk ci : Nat} {mo : Int32} {f : Nat → Option Nat} {ad : Nat → Nat} (fL : A (1, w) = some (h, .inr (4, [.int mo, .ref q, .int (nI n)]))) (fA : A (2, w) = some (q, .inl (cO, n, .inr (.inr (.inr (.inr f)))))) (hn2 : 2 ≤ n) (hn : n < 160) (hkk : kk ≠ 12) (hci : ci = 2 ∨ ci = 3) (hfi : ∀ i, i < n → f i = some (ad i)) (hel : ∀ i, i < n → ∃ fs, A (kk, i) = some (ad i, .inr (ci, fs))) : Met l y_AL_growI (Cond.code y_AL_growI b_AL_growI 4 (some (.array (.object "java/lang/Object"))) :: TT) ({ frames := 3, cells := 1, slots := 240, locals := 84 }) (va_Pc [.ref h, .int (nI (n + 1))] (gI D [(cI, .int), (cZ, .boolean), (cO, .object "java/lang/Object"), (cL, .long)] b e0 A)) (va_Qr (fun _ : gW => True) (fun A2 r t => gP D classes b A2 t.heap ∧ A2 (1, w) = some (h, .inr (4, [.int mo, .ref r, .int (nI n)])) ∧ (∃ (cap2 : Nat) (f2 : Nat → Option Nat), A2 (2, w) = some (r, .inl (cO, cap2, .inr (.inr (.inr (.inr f2))))) ∧ n < cap2 ∧ cap2 ≤ 240 ∧ ∀ i, i < n → f2 i = f i) ∧ gF [1, 2, 12] w A A2) (fun q => b ≤ q)) 1 240 (fun q => b ≤ q) := by
  refine Met.ofG (own := R_AL) (by decide +kernel) rfl (Nat.le_of_ble_eq_true rfl) ?_
  intro p e s m below meth c ls hx hb hr hlk hml hown hnm hts hI hl
  have hl : lv_has ls 4 [(0, .ref h), (1, .int (nI (n + 1)))] := hl
  have hS : gS b s.heap s.heap [] := va_S.rf
  obtain ⟨hP, hK⟩ := hI
  refine lv_aload_n hx hb d_AL_growI_0 rfl (lv_at hl 0 rfl) ?_
  refine g_get hx hb hts i_AL hown hK.1 hP fL rfl 1 (by decide) (hts _ k_37) (fun _ h9 => h9) rfl d_AL_growI_1 ?_
  refine g_alen (v := nI (n)) hx hb hK.1 hP 2 fA rfl rfl d_AL_growI_4 ?_
  refine lv_istore_n (lv' := [(2, .int (nI (n))), (0, .ref h), (1, .int (nI (n + 1)))]) hx hb d_AL_growI_5 rfl hl (by decide) rfl (fun ls hl => ?_)
  refine lv_iload_n hx hb d_AL_growI_6 rfl (lv_at hl 0 rfl) ?_
  refine lv_if_gt (tgt := 20) hx hb d_AL_growI_7 (by decide) (fun _ => ?_) (fun h9 => absurd (by rw [← nI_0]; exact nI_lt (show 0 < n by omega) (by omega)) h9)
  refine lv_iload_n hx hb d_AL_growI_20 rfl (lv_at hl 0 rfl) ?_
  refine lv_iload_n hx hb d_AL_growI_21 rfl (lv_at hl 2 rfl) ?_
  refine lv_iload_n hx hb d_AL_growI_22 rfl (lv_at hl 0 rfl) ?_
  refine lv_isub hx hb d_AL_growI_23 ?_
  rw [sub1]
  refine lv_iload_n hx hb d_AL_growI_24 rfl (lv_at hl 0 rfl) ?_
  refine lv_iconst (v := 1) hx hb d_AL_growI_25 (by decide) ?_
  refine lv_ishr hx hb d_AL_growI_26 ?_
  rw [shr1 (show n < 2 ^ 31 by omega)]
  refine g_ri (g_runS (As := [.int (nI (n)), .int (nI 1), .int (nI (n / 2))]) (rest := []) ⟨hx, hb, hml, hown, hts⟩ (c_As_newLength l (n := n) (by omega) (by omega)) st_As_newLength k_177 ⟨rfl, rfl, by decide, by decide⟩ (gT_pre _) rfl hl.1 rfl (Nat.le_of_ble_eq_true rfl) d_AL_growI_27 ⟨by decide, by decide⟩) (fun r2 hr2 => ?_)
  subst hr2
  refine lv_istore_n (lv' := [(3, .int (nI (n + n / 2))), (2, .int (nI (n))), (0, .ref h), (1, .int (nI (n + 1)))]) hx hb d_AL_growI_30 rfl hl (by decide) rfl (fun ls hl => ?_)
  refine lv_aload_n hx hb d_AL_growI_31 rfl (lv_at hl 2 rfl) ?_
  refine lv_aload_n hx hb d_AL_growI_32 rfl (lv_at hl 2 rfl) ?_
  refine g_get hx hb hts i_AL hown hK.1 hP fL rfl 1 (by decide) (hts _ k_37) (fun _ h9 => h9) rfl d_AL_growI_33 ?_
  refine lv_iload_n hx hb d_AL_growI_36 rfl (lv_at hl 0 rfl) ?_
  refine g_cr (B := fun A2 r H => gP D classes b A2 H ∧ A2 (12, w) = some (r, .inl (cO, (n + n / 2), .inr (.inr (.inr (.inr (va_cpy f (fun _ => none) 0 0 n)))))) ∧ gF [12] w A A2) (g_runS (As := [.ref q, .int (nI (n + n / 2))]) (rest := [.ref h]) ⟨hx, hb, hml, hown, hts⟩ (c_Ar_copyOf l (k2 := n + n / 2) fA (by omega) (by omega) (by omega) hkk hci hfi hel) st_Ar_copyOf k_187 ⟨rfl, rfl, by decide, by decide⟩ (gI.pre hK hS hP _) rfl hl.1 rfl (Nat.le_of_ble_eq_true rfl) d_AL_growI_37 ⟨by decide, by decide⟩) hS (fun A3 r H locs _ hp4 hS => ?_)
  obtain ⟨hP, fN, gN1⟩ := hp4
  refine W.widen (k := 1) (n := 240) (by decide) (by decide) ?_
  have f5 : A3 (1, w) = some (h, .inr (4, [.int mo, .ref q, .int (nI n)])) := (gN1.at (n := 1) (j := w) (by decide)).trans fL
  have f6 : A3 (2, w) = some (q, .inl (cO, n, .inr (.inr (.inr (.inr f))))) := (gN1.at (n := 2) (j := w) (by decide)).trans fA
  have gN2 : gF [1, 2, 12] w A A3 := gN1.mono (by decide)
  refine lv_dup_x1 hx hb d_AL_growI_40 rfl rfl ?_
  refine g_put (ty := (.array (.object "java/lang/Object"))) (v := .ref r) hx hb hts i_AL t_AL t_AL_ok n_AL hown hK.1 hP hS f5 rfl 1 (by decide) (hts _ k_37) (fun _ h9 => h9) rfl (by decide +kernel) rfl rfl (Nat.le_of_ble_eq_true rfl) d_AL_growI_41 (fun H locs hP hS => ?_)
  obtain ⟨A7, eA7⟩ : ∃ z, z = gU A3 (1, w) (h, .inr (4, [.int mo, .ref r, .int (nI n)])) := ⟨_, rfl⟩
  replace hP : gP D classes b A7 H := by rw [eA7]; exact hP
  have f8 : A7 (2, w) = some (q, .inl (cO, n, .inr (.inr (.inr (.inr f))))) := (by rw [eA7]; exact gU_n (gne (show (2 : Nat) ≠ 1 by decide)) : A7 (2, w) = A3 (2, w)).trans f6
  have f9 : A7 (12, w) = some (r, .inl (cO, (n + n / 2), .inr (.inr (.inr (.inr (va_cpy f (fun _ => none) 0 0 n)))))) := (by rw [eA7]; exact gU_n (gne (show (12 : Nat) ≠ 1 by decide)) : A7 (12, w) = A3 (12, w)).trans fN
  have f10 : A7 (1, w) = some (h, .inr (4, [.int mo, .ref r, .int (nI n)])) := by rw [eA7]; exact gU_s
  have gA7 : gF [1, 2, 12] w A A7 := by rw [eA7]; exact gF_U gN2 (by decide)
  have hP2 := hP.ren (2, w) (12, w)
  refine W.widen (k := 1) (n := 240) (by decide) (by decide) ?_
  exact W.aret hx hb hr (Or.inr ⟨_, rfl⟩) (Or.inr ⟨_, rfl⟩) (fun t ht _ => ⟨⟨gRen A7 (2, w) (12, w), r, rfl, trivial, ⟨(show gP D classes b (gRen A7 (2, w) (12, w)) t.heap by rw [ht]; exact hP2), (gRen_o (gne (show (1 : Nat) ≠ 2 by decide)) (gne (show (1 : Nat) ≠ 12 by decide))).trans f10, ⟨n + n / 2, _, gRen_n.trans f9, by omega, by omega, fun i hi => cpy_lt hi⟩, gA7.ren (by decide) (by decide)⟩⟩, hS.F ht⟩) hS.2.2 d_AL_growI_44
end
section
theorem rAL.snoc {cO : ClassId} {e0 : Nat} {A : gW} {w kk ci h n r cap x : Nat} {mo : Int32} {f : Nat → Option Nat} {ad : Nat → Nat} (fL : A (1, w) = some (h, .inr (4, [.int mo, .ref r, .int (nI n + 1)]))) (fA : A (2, w) = some (r, .inl (cO, cap, .inr (.inr (.inr (.inr (va_up f n (some x)))))))) (hc : n < cap) (hc2 : 2 ≤ cap) (hc3 : cap ≤ 240) (hf : ∀ i, i < n → f i = some (ad i)) (fE : A (3, 0) = some (e0, gE cO)) (hel : ∀ i, i < n → ∃ fs, A (kk, i) = some (ad i, .inr (ci, fs))) {fsx : List Value} (hx : A (kk, n) = some (x, .inr (ci, fsx))) : rAL cO e0 A w kk ci h (n + 1) (va_up ad n x) := by
  refine ⟨mo, r, cap, va_up f n (some x), by rw [← nI_1]; exact fL, Or.inr ⟨fA, hc2, hc, hc3, fun i hi => ?_⟩, fE, fun i hi => ?_⟩
  · by_cases e : i = n
    · simp [va_up, e]
    · simp only [va_up, if_neg e]; exact hf i (by omega)
  · by_cases e : i = n
    · subst e; exact ⟨fsx, by simp only [va_up, if_true]; exact hx⟩
    · simp only [va_up, if_neg e]; exact hel i (by omega)
set_option maxHeartbeats 4000000 in
set_option maxRecDepth 100000 in
theorem c_AL_grow (l : Launch) {D : va_G} {cI cZ cO cL : ClassId} {b e0 : Nat} {A : gW} {w h q n kk ci : Nat} {mo : Int32} {f : Nat → Option Nat} {ad : Nat → Nat} (fL : A (1, w) = some (h, .inr (4, [.int mo, .ref q, .int (nI n)]))) (hq : n = 0 ∧ q = e0 ∨ (A (2, w) = some (q, .inl (cO, n, .inr (.inr (.inr (.inr f))))) ∧ 2 ≤ n ∧ ∀ i, i < n → f i = some (ad i))) (fE : A (3, 0) = some (e0, gE cO)) (hel : ∀ i, i < n → ∃ fs, A (kk, i) = some (ad i, .inr (ci, fs))) (hn : n < 160) (hkk : kk ≠ 1 ∧ kk ≠ 2 ∧ kk ≠ 12) (hci : ci = 2 ∨ ci = 3) : Met l y_AL_grow (Cond.code y_AL_grow b_AL_grow 1 (some (.array (.object "java/lang/Object"))) :: TT) ({ frames := 4, cells := 1, slots := 240, locals := 107 }) (va_Pc [.ref h] (gI D [(cI, .int), (cZ, .boolean), (cO, .object "java/lang/Object"), (cL, .long)] b e0 A)) (va_Qr (fun _ : gW => True) (fun A2 r t => gP D classes b A2 t.heap ∧ A2 (1, w) = some (h, .inr (4, [.int mo, .ref r, .int (nI n)])) ∧ (∃ (cap2 : Nat) (f2 : Nat → Option Nat), A2 (2, w) = some (r, .inl (cO, cap2, .inr (.inr (.inr (.inr f2))))) ∧ n < cap2 ∧ 2 ≤ cap2 ∧ cap2 ≤ 240 ∧ ∀ i, i < n → f2 i = some (ad i)) ∧ gF [1, 2, 12] w A A2) (fun q => b ≤ q)) 1 240 (fun q => b ≤ q) := by
  refine Met.ofG (own := R_AL) (by decide +kernel) rfl (Nat.le_of_ble_eq_true rfl) ?_
  intro p e s m below meth c ls hx hb hr hlk hml hown hnm hts hI hl
  have hl : lv_has ls 1 [(0, .ref h)] := hl
  have hS : gS b s.heap s.heap [] := va_S.rf
  obtain ⟨hP, hK⟩ := hI
  rcases hq with ⟨rfl, rfl⟩ | ⟨fA, hn2, hfi⟩
  · skip
    have fE2 : A (3, 0) = some (q, .inl (cO, 0, .inr (.inr (.inr (.inr fun _ => none))))) := fE
    refine lv_aload_n hx hb d_AL_grow_0 rfl (lv_at hl 0 rfl) ?_
    refine lv_aload_n hx hb d_AL_grow_1 rfl (lv_at hl 0 rfl) ?_
    refine g_get hx hb hts i_AL hown hK.1 hP fL rfl 2 (by decide) (hts _ k_38) (fun _ h9 => h9) rfl d_AL_grow_2 ?_
    refine lv_iconst (v := 1) hx hb d_AL_grow_5 (by decide) ?_
    refine lv_iadd hx hb d_AL_grow_6 ?_
    rw [nI_1]
    refine g_cr (B := fun A2 r H => gP D classes b A2 H ∧ A2 (1, w) = some (h, .inr (4, [.int mo, .ref r, .int (nI 0)])) ∧ (∃ (cap2 : Nat) (f2 : Nat → Option Nat), A2 (2, w) = some (r, .inl (cO, cap2, .inr (.inr (.inr (.inr f2))))) ∧ 2 ≤ cap2 ∧ cap2 ≤ 240 ∧ ∀ i, i < 0 → f2 i = (fun _ => none) i) ∧ gF [1, 2, 12] w A A2) (g_runV (As := [.int (nI 1)]) (rest := []) ⟨hx, hb, hml, hown, hts⟩ (c_AL_growI0 l (fun _ => none) fL fE2) st_AL_growI k_173 ⟨rfl, rfl, by decide, by decide⟩ rfl (gI.preV hK hS hP fL rfl _) rfl hl.1 rfl (Nat.le_of_ble_eq_true rfl) d_AL_grow_7 ⟨by decide, by decide⟩) hS (fun A1 r H locs _ hp2 hS => ?_)
    obtain ⟨hP, fL2, ⟨cap2, f2, fA2, hc1, hc2, hf2⟩, gN1⟩ := hp2
    refine W.widen (k := 1) (n := 240) (by decide) (by decide) ?_
    refine W.widen (k := 1) (n := 240) (by decide) (by decide) ?_
    exact W.aret hx hb hr (Or.inr ⟨_, rfl⟩) (Or.inr ⟨_, rfl⟩) (fun t ht _ => ⟨⟨A1, r, rfl, trivial, ⟨(show gP D classes b A1 t.heap by rw [ht]; exact hP), fL2, ⟨cap2, f2, fA2, by omega, hc1, hc2, fun i hi => absurd hi (Nat.not_lt_zero i)⟩, gN1⟩⟩, hS.F ht⟩) hS.2.2 d_AL_grow_10
  · skip
    refine lv_aload_n hx hb d_AL_grow_0 rfl (lv_at hl 0 rfl) ?_
    refine lv_aload_n hx hb d_AL_grow_1 rfl (lv_at hl 0 rfl) ?_
    refine g_get hx hb hts i_AL hown hK.1 hP fL rfl 2 (by decide) (hts _ k_38) (fun _ h9 => h9) rfl d_AL_grow_2 ?_
    refine lv_iconst (v := 1) hx hb d_AL_grow_5 (by decide) ?_
    refine lv_iadd hx hb d_AL_grow_6 ?_
    rw [nI_1]
    refine g_cr (B := fun A2 r H => gP D classes b A2 H ∧ A2 (1, w) = some (h, .inr (4, [.int mo, .ref r, .int (nI n)])) ∧ (∃ (cap2 : Nat) (f2 : Nat → Option Nat), A2 (2, w) = some (r, .inl (cO, cap2, .inr (.inr (.inr (.inr f2))))) ∧ n < cap2 ∧ cap2 ≤ 240 ∧ ∀ i, i < n → f2 i = f i) ∧ gF [1, 2, 12] w A A2) (g_runV (As := [.int (nI (n + 1))]) (rest := []) ⟨hx, hb, hml, hown, hts⟩ (c_AL_growI l fL fA hn2 hn hkk.2.2 hci hfi hel) st_AL_growI k_173 ⟨rfl, rfl, by decide, by decide⟩ rfl (gI.preV hK hS hP fL rfl _) rfl hl.1 rfl (Nat.le_of_ble_eq_true rfl) d_AL_grow_7 ⟨by decide, by decide⟩) hS (fun A3 r H locs _ hp4 hS => ?_)
    obtain ⟨hP, fL2, ⟨cap2, f2, fA2, hc1, hc2, hf2⟩, gN1⟩ := hp4
    refine W.widen (k := 1) (n := 240) (by decide) (by decide) ?_
    refine W.widen (k := 1) (n := 240) (by decide) (by decide) ?_
    exact W.aret hx hb hr (Or.inr ⟨_, rfl⟩) (Or.inr ⟨_, rfl⟩) (fun t ht _ => ⟨⟨A3, r, rfl, trivial, ⟨(show gP D classes b A3 t.heap by rw [ht]; exact hP), fL2, ⟨cap2, f2, fA2, hc1, by omega, hc2, fun i hi => (hf2 i hi).trans (hfi i hi)⟩, gN1⟩⟩, hS.F ht⟩) hS.2.2 d_AL_grow_10
set_option maxHeartbeats 4000000 in
set_option maxRecDepth 100000 in
theorem c_AL_add3 (l : Launch) {D : va_G} {cI cZ cO cL : ClassId} {b e0 : Nat} {A : gW} {w h q n cap kk ci : Nat} {mo : Int32} {f : Nat → Option Nat} {ad : Nat → Nat} (fL : A (1, w) = some (h, .inr (4, [.int mo, .ref q, .int (nI n)]))) (hq : n = 0 ∧ q = e0 ∨ (A (2, w) = some (q, .inl (cO, cap, .inr (.inr (.inr (.inr f))))) ∧ 2 ≤ cap ∧ n ≤ cap ∧ cap ≤ 240 ∧ ∀ i, i < n → f i = some (ad i))) (fE : A (3, 0) = some (e0, gE cO)) (hel : ∀ i, i < n → ∃ fs, A (kk, i) = some (ad i, .inr (ci, fs))) (hn : n < 160) (hkk : kk ≠ 1 ∧ kk ≠ 2 ∧ kk ≠ 12) (hci : ci = 2 ∨ ci = 3) {x : Nat} {fsx : List Value} (hx0 : A (kk, n) = some (x, .inr (ci, fsx))) : Met l y_AL_add3 (Cond.code y_AL_add3 b_AL_add3 4 none :: TT) ({ frames := 5, cells := 1, slots := 240, locals := 127 }) (va_Pc [.ref h, .ref x, .ref q, .int (nI n)] (gI D [(cI, .int), (cZ, .boolean), (cO, .object "java/lang/Object"), (cL, .long)] b e0 A)) (va_Qv (fun A2 : gW => rAL cO e0 A2 w kk ci h (n + 1) (va_up ad n x) ∧ gF [1, 2, 12] w A A2) (fun A2 t => gP D classes b A2 t.heap) (fun q => b ≤ q)) 1 240 (fun q => b ≤ q) := by
  refine Met.ofG (own := R_AL) (by decide +kernel) rfl (Nat.le_of_ble_eq_true rfl) ?_
  intro p e s m below meth c ls hx hb hr hlk hml hown hnm hts hI hl
  have hl : lv_has ls 4 [(0, .ref h), (1, .ref x), (2, .ref q), (3, .int (nI n))] := hl
  have hS : gS b s.heap s.heap [] := va_S.rf
  obtain ⟨hP, hK⟩ := hI
  rcases hq with ⟨h0, hq0⟩ | ⟨fA, hc2, hnc, hc3, hfi⟩
  · skip
    have fE2 : A (3, 0) = some (q, .inl (cO, 0, .inr (.inr (.inr (.inr fun _ => none))))) := by rw [hq0]; exact fE
    refine lv_iload_n hx hb d_AL_add3_0 rfl (lv_at hl 3 rfl) ?_
    refine lv_aload_n hx hb d_AL_add3_1 rfl (lv_at hl 2 rfl) ?_
    refine g_alen (v := nI (0)) hx hb hK.1 hP 2 fE2 rfl rfl d_AL_add3_2 ?_
    refine lv_icmp_ne (tgt := 11) hx hb d_AL_add3_3 (by decide) (fun h9 => absurd h9 (fun z => z (by rw [h0]))) (fun _ => ?_)
    refine lv_aload_n hx hb d_AL_add3_6 rfl (lv_at hl 0 rfl) ?_
    refine g_cr (B := fun A2 r H => gP D classes b A2 H ∧ A2 (1, w) = some (h, .inr (4, [.int mo, .ref r, .int (nI n)])) ∧ (∃ (cap2 : Nat) (f2 : Nat → Option Nat), A2 (2, w) = some (r, .inl (cO, cap2, .inr (.inr (.inr (.inr f2))))) ∧ n < cap2 ∧ 2 ≤ cap2 ∧ cap2 ≤ 240 ∧ ∀ i, i < n → f2 i = some (ad i)) ∧ gF [1, 2, 12] w A A2) (g_runV (As := []) (rest := []) ⟨hx, hb, hml, hown, hts⟩ (c_AL_grow l (f := f) (ad := ad) (kk := kk) (ci := ci) fL (Or.inl ⟨h0, hq0⟩) fE hel hn hkk hci) st_AL_grow k_169 ⟨rfl, rfl, by decide, by decide⟩ rfl (gI.preV hK hS hP fL rfl _) rfl hl.1 rfl (Nat.le_of_ble_eq_true rfl) d_AL_add3_7 ⟨by decide, by decide⟩) hS (fun A2 r H locs _ hp3 hS => ?_)
    obtain ⟨hP, fL2, ⟨cap2, f2, fA2, hc1, hcc, hc4, hf2⟩, gN1⟩ := hp3
    refine W.widen (k := 1) (n := 240) (by decide) (by decide) ?_
    have fX : A2 (kk, n) = some (x, .inr (ci, fsx)) := (gN1 (kk, n) (fun z => by simp at z; omega)).trans hx0
    refine lv_astore_n (lv' := [(2, .ref r), (0, .ref h), (1, .ref x), (3, .int (nI n))]) hx hb d_AL_add3_10 rfl hl (by decide) rfl (fun ls hl => ?_)
    refine lv_aload_n hx hb d_AL_add3_11 rfl (lv_at hl 0 rfl) ?_
    refine lv_iload_n hx hb d_AL_add3_12 rfl (lv_at hl 3 rfl) ?_
    refine lv_aload_n hx hb d_AL_add3_13 rfl (lv_at hl 2 rfl) ?_
    refine g_aast (k := n) hx hb hK.1 hP hS 2 fA2 rfl (g_any hK hP fX hci)  (vp_in_nI (show n < cap2 by omega) (by omega)) (nI_clamp (show n < 2 ^ 31 by omega)) d_AL_add3_14 (fun H locs hP hS => ?_)
    obtain ⟨A4, eA4⟩ : ∃ z, z = gU A2 (2, w) (r, .inl (cO, cap2, .inr (.inr (.inr (.inr (va_up f2 (n) (some x))))))) := ⟨_, rfl⟩
    replace hP : gP D classes b A4 H := by rw [eA4]; exact hP
    have f5 : A4 (1, w) = some (h, .inr (4, [.int mo, .ref r, .int (nI n)])) := (by rw [eA4]; exact gU_n (gne (show (1 : Nat) ≠ 2 by decide)) : A4 (1, w) = A2 (1, w)).trans fL2
    have f6 : A4 (2, w) = some (r, .inl (cO, cap2, .inr (.inr (.inr (.inr (va_up f2 (n) (some x))))))) := by rw [eA4]; exact gU_s
    have gA4 : gF [1, 2, 12] w A A4 := by rw [eA4]; exact gF_U gN1 (by decide)
    refine lv_aload_n hx hb d_AL_add3_15 rfl (lv_at hl 1 rfl) ?_
    refine lv_iload_n hx hb d_AL_add3_16 rfl (lv_at hl 3 rfl) ?_
    refine lv_iconst (v := 1) hx hb d_AL_add3_17 (by decide) ?_
    refine lv_iadd hx hb d_AL_add3_18 ?_
    refine g_put (ty := .int) (v := .int ((nI n) + 1)) hx hb hts i_AL t_AL t_AL_ok n_AL hown hK.1 hP hS f5 rfl 2 (by decide) (hts _ k_38) (fun _ h9 => h9) rfl (by decide +kernel) rfl rfl (Nat.le_of_ble_eq_true rfl) d_AL_add3_19 (fun H locs hP hS => ?_)
    obtain ⟨A7, eA7⟩ : ∃ z, z = gU A4 (1, w) (h, .inr (4, [.int mo, .ref r, .int ((nI n) + 1)])) := ⟨_, rfl⟩
    replace hP : gP D classes b A7 H := by rw [eA7]; exact hP
    have f8 : A7 (2, w) = some (r, .inl (cO, cap2, .inr (.inr (.inr (.inr (va_up f2 (n) (some x))))))) := (by rw [eA7]; exact gU_n (gne (show (2 : Nat) ≠ 1 by decide)) : A7 (2, w) = A4 (2, w)).trans f6
    have f9 : A7 (1, w) = some (h, .inr (4, [.int mo, .ref r, .int ((nI n) + 1)])) := by rw [eA7]; exact gU_s
    have gA7 : gF [1, 2, 12] w A A7 := by rw [eA7]; exact gF_U gA4 (by decide)
    refine W.widen (k := 1) (n := 240) (by decide) (by decide) ?_
    exact W.vret hx hb hr (fun t ht _ => ⟨⟨A7, rfl, ⟨rAL.snoc (f := f2) f9 f8 hc1 hcc hc4 hf2 ((gA7.at (n := 3) (j := 0) (by decide)).trans fE) (fun i hi => (hel i hi).elim fun fs h => ⟨fs, (gA7 (kk, i) (fun z => by simp at z; omega)).trans h⟩) ((gA7 (kk, n) (fun z => by simp at z; omega)).trans hx0), gA7⟩, show gP D classes b A7 t.heap by rw [ht]; exact hP⟩, hS.F ht⟩) hS.2.2 d_AL_add3_22
  · by_cases hfull : n = cap
    · subst hfull
      refine lv_iload_n hx hb d_AL_add3_0 rfl (lv_at hl 3 rfl) ?_
      refine lv_aload_n hx hb d_AL_add3_1 rfl (lv_at hl 2 rfl) ?_
      refine g_alen (v := nI (n)) hx hb hK.1 hP 2 fA rfl rfl d_AL_add3_2 ?_
      refine lv_icmp_ne (tgt := 11) hx hb d_AL_add3_3 (by decide) (fun h9 => absurd h9 (fun z => z rfl)) (fun _ => ?_)
      refine lv_aload_n hx hb d_AL_add3_6 rfl (lv_at hl 0 rfl) ?_
      refine g_cr (B := fun A2 r H => gP D classes b A2 H ∧ A2 (1, w) = some (h, .inr (4, [.int mo, .ref r, .int (nI n)])) ∧ (∃ (cap2 : Nat) (f2 : Nat → Option Nat), A2 (2, w) = some (r, .inl (cO, cap2, .inr (.inr (.inr (.inr f2))))) ∧ n < cap2 ∧ 2 ≤ cap2 ∧ cap2 ≤ 240 ∧ ∀ i, i < n → f2 i = some (ad i)) ∧ gF [1, 2, 12] w A A2) (g_runV (As := []) (rest := []) ⟨hx, hb, hml, hown, hts⟩ (c_AL_grow l (f := f) fL (Or.inr ⟨fA, hc2, hfi⟩) fE hel hn hkk hci) st_AL_grow k_169 ⟨rfl, rfl, by decide, by decide⟩ rfl (gI.preV hK hS hP fL rfl _) rfl hl.1 rfl (Nat.le_of_ble_eq_true rfl) d_AL_add3_7 ⟨by decide, by decide⟩) hS (fun A11 r H locs _ hp12 hS => ?_)
      obtain ⟨hP, fL2, ⟨cap2, f2, fA2, hc1, hcc, hc4, hf2⟩, gN1⟩ := hp12
      refine W.widen (k := 1) (n := 240) (by decide) (by decide) ?_
      have fX : A11 (kk, n) = some (x, .inr (ci, fsx)) := (gN1 (kk, n) (fun z => by simp at z; omega)).trans hx0
      refine lv_astore_n (lv' := [(2, .ref r), (0, .ref h), (1, .ref x), (3, .int (nI n))]) hx hb d_AL_add3_10 rfl hl (by decide) rfl (fun ls hl => ?_)
      refine lv_aload_n hx hb d_AL_add3_11 rfl (lv_at hl 0 rfl) ?_
      refine lv_iload_n hx hb d_AL_add3_12 rfl (lv_at hl 3 rfl) ?_
      refine lv_aload_n hx hb d_AL_add3_13 rfl (lv_at hl 2 rfl) ?_
      refine g_aast (k := n) hx hb hK.1 hP hS 2 fA2 rfl (g_any hK hP fX hci)  (vp_in_nI (show n < cap2 by omega) (by omega)) (nI_clamp (show n < 2 ^ 31 by omega)) d_AL_add3_14 (fun H locs hP hS => ?_)
      obtain ⟨A13, eA13⟩ : ∃ z, z = gU A11 (2, w) (r, .inl (cO, cap2, .inr (.inr (.inr (.inr (va_up f2 (n) (some x))))))) := ⟨_, rfl⟩
      replace hP : gP D classes b A13 H := by rw [eA13]; exact hP
      have f14 : A13 (1, w) = some (h, .inr (4, [.int mo, .ref r, .int (nI n)])) := (by rw [eA13]; exact gU_n (gne (show (1 : Nat) ≠ 2 by decide)) : A13 (1, w) = A11 (1, w)).trans fL2
      have f15 : A13 (2, w) = some (r, .inl (cO, cap2, .inr (.inr (.inr (.inr (va_up f2 (n) (some x))))))) := by rw [eA13]; exact gU_s
      have gA13 : gF [1, 2, 12] w A A13 := by rw [eA13]; exact gF_U gN1 (by decide)
      refine lv_aload_n hx hb d_AL_add3_15 rfl (lv_at hl 1 rfl) ?_
      refine lv_iload_n hx hb d_AL_add3_16 rfl (lv_at hl 3 rfl) ?_
      refine lv_iconst (v := 1) hx hb d_AL_add3_17 (by decide) ?_
      refine lv_iadd hx hb d_AL_add3_18 ?_
      refine g_put (ty := .int) (v := .int ((nI n) + 1)) hx hb hts i_AL t_AL t_AL_ok n_AL hown hK.1 hP hS f14 rfl 2 (by decide) (hts _ k_38) (fun _ h9 => h9) rfl (by decide +kernel) rfl rfl (Nat.le_of_ble_eq_true rfl) d_AL_add3_19 (fun H locs hP hS => ?_)
      obtain ⟨A16, eA16⟩ : ∃ z, z = gU A13 (1, w) (h, .inr (4, [.int mo, .ref r, .int ((nI n) + 1)])) := ⟨_, rfl⟩
      replace hP : gP D classes b A16 H := by rw [eA16]; exact hP
      have f17 : A16 (2, w) = some (r, .inl (cO, cap2, .inr (.inr (.inr (.inr (va_up f2 (n) (some x))))))) := (by rw [eA16]; exact gU_n (gne (show (2 : Nat) ≠ 1 by decide)) : A16 (2, w) = A13 (2, w)).trans f15
      have f18 : A16 (1, w) = some (h, .inr (4, [.int mo, .ref r, .int ((nI n) + 1)])) := by rw [eA16]; exact gU_s
      have gA16 : gF [1, 2, 12] w A A16 := by rw [eA16]; exact gF_U gA13 (by decide)
      refine W.widen (k := 1) (n := 240) (by decide) (by decide) ?_
      exact W.vret hx hb hr (fun t ht _ => ⟨⟨A16, rfl, ⟨rAL.snoc (f := f2) f18 f17 hc1 hcc hc4 hf2 ((gA16.at (n := 3) (j := 0) (by decide)).trans fE) (fun i hi => (hel i hi).elim fun fs h => ⟨fs, (gA16 (kk, i) (fun z => by simp at z; omega)).trans h⟩) ((gA16 (kk, n) (fun z => by simp at z; omega)).trans hx0), gA16⟩, show gP D classes b A16 t.heap by rw [ht]; exact hP⟩, hS.F ht⟩) hS.2.2 d_AL_add3_22
    · skip
      refine lv_iload_n hx hb d_AL_add3_0 rfl (lv_at hl 3 rfl) ?_
      refine lv_aload_n hx hb d_AL_add3_1 rfl (lv_at hl 2 rfl) ?_
      refine g_alen (v := nI (cap)) hx hb hK.1 hP 2 fA rfl rfl d_AL_add3_2 ?_
      refine lv_icmp_ne (tgt := 11) hx hb d_AL_add3_3 (by decide) (fun _ => ?_) (fun h9 => absurd h9 (fun z => hfull ((nI_eq (by omega) (by omega)).mp z)))
      refine lv_aload_n hx hb d_AL_add3_11 rfl (lv_at hl 2 rfl) ?_
      refine lv_iload_n hx hb d_AL_add3_12 rfl (lv_at hl 3 rfl) ?_
      refine lv_aload_n hx hb d_AL_add3_13 rfl (lv_at hl 1 rfl) ?_
      refine g_aast (k := n) hx hb hK.1 hP hS 2 fA rfl (g_any hK hP hx0 hci)  (vp_in_nI (show n < cap by omega) (by omega)) (nI_clamp (show n < 2 ^ 31 by omega)) d_AL_add3_14 (fun H locs hP hS => ?_)
      obtain ⟨A20, eA20⟩ : ∃ z, z = gU A (2, w) (q, .inl (cO, cap, .inr (.inr (.inr (.inr (va_up f (n) (some x))))))) := ⟨_, rfl⟩
      replace hP : gP D classes b A20 H := by rw [eA20]; exact hP
      have f21 : A20 (1, w) = some (h, .inr (4, [.int mo, .ref q, .int (nI n)])) := (by rw [eA20]; exact gU_n (gne (show (1 : Nat) ≠ 2 by decide)) : A20 (1, w) = A (1, w)).trans fL
      have f22 : A20 (2, w) = some (q, .inl (cO, cap, .inr (.inr (.inr (.inr (va_up f (n) (some x))))))) := by rw [eA20]; exact gU_s
      have gA20 : gF [1, 2, 12] w A A20 := by rw [eA20]; exact gF_U gF.rf (by decide)
      refine lv_aload_n hx hb d_AL_add3_15 rfl (lv_at hl 0 rfl) ?_
      refine lv_iload_n hx hb d_AL_add3_16 rfl (lv_at hl 3 rfl) ?_
      refine lv_iconst (v := 1) hx hb d_AL_add3_17 (by decide) ?_
      refine lv_iadd hx hb d_AL_add3_18 ?_
      refine g_put (ty := .int) (v := .int ((nI n) + 1)) hx hb hts i_AL t_AL t_AL_ok n_AL hown hK.1 hP hS f21 rfl 2 (by decide) (hts _ k_38) (fun _ h9 => h9) rfl (by decide +kernel) rfl rfl (Nat.le_of_ble_eq_true rfl) d_AL_add3_19 (fun H locs hP hS => ?_)
      obtain ⟨A23, eA23⟩ : ∃ z, z = gU A20 (1, w) (h, .inr (4, [.int mo, .ref q, .int ((nI n) + 1)])) := ⟨_, rfl⟩
      replace hP : gP D classes b A23 H := by rw [eA23]; exact hP
      have f24 : A23 (2, w) = some (q, .inl (cO, cap, .inr (.inr (.inr (.inr (va_up f (n) (some x))))))) := (by rw [eA23]; exact gU_n (gne (show (2 : Nat) ≠ 1 by decide)) : A23 (2, w) = A20 (2, w)).trans f22
      have f25 : A23 (1, w) = some (h, .inr (4, [.int mo, .ref q, .int ((nI n) + 1)])) := by rw [eA23]; exact gU_s
      have gA23 : gF [1, 2, 12] w A A23 := by rw [eA23]; exact gF_U gA20 (by decide)
      refine W.widen (k := 1) (n := 240) (by decide) (by decide) ?_
      exact W.vret hx hb hr (fun t ht _ => ⟨⟨A23, rfl, ⟨rAL.snoc (f := f) f25 f24 (by omega) hc2 hc3 hfi ((gA23.at (n := 3) (j := 0) (by decide)).trans fE) (fun i hi => (hel i hi).elim fun fs h => ⟨fs, (gA23 (kk, i) (fun z => by simp at z; omega)).trans h⟩) ((gA23 (kk, n) (fun z => by simp at z; omega)).trans hx0), gA23⟩, show gP D classes b A23 t.heap by rw [ht]; exact hP⟩, hS.F ht⟩) hS.2.2 d_AL_add3_22
end
section
/-! The book's picture, put together again behind a change. -/
/-- names from 20 on (the reference's) have not changed -/
def gO (A A' : gW) : Prop := ∀ k : gN, 20 ≤ k.1 → A' k = A k
theorem gO.rf {A : gW} : gO A A := fun _ _ => rfl
theorem gO.trans {A B C : gW} (h : gO A B) (h2 : gO B C) : gO A C := fun k hk => (h2 k hk).trans (h k hk)
theorem gF.out {ks : List Nat} {i : Nat} {A A' : gW} (h : gF ks i A A') (hk : ks.all (fun k => decide (k < 20)) = true) : gO A A' := fun k hk2 => h k (fun z => by
  have := List.all_eq_true.mp hk _ z.1
  simp at this
  omega)
def rBq (cI cZ cO : ClassId) (e0 : Nat) (A : gW) (h ra ia sa ua : Nat) (aR aI aM : Nat → Nat) (fs : Nat → Int32) (σ : Bk) : Prop :=
  A (0, 0) = some (h, .inr (0, [.ref ra, .ref ia, .ref sa, .ref ua, .int (nI (kMk σ) - 1)])) ∧
  rAL cO e0 A 0 8 2 ra (kRs σ).length aR ∧ rAL cO e0 A 1 11 3 ia (kIs σ).length aI ∧
  A (4, 0) = some (sa, .inl (cZ, 4, .inl fs)) ∧ (∀ j, j < 4 → fs j = bI (kSt σ j)) ∧
  rMa cI A (kRs σ).length ua (kBu σ) ∧
  (∀ i, i < (kRs σ).length → rMa cI A i (aM i) (uMs ((kRs σ).getD i u0)) ∧ rRu cI A i (aR i) (aM i) ((kRs σ).getD i u0)) ∧
  (∀ i, i < (kIs σ).length → rIn A i (aI i) ((kIs σ).getD i i0))
section RB
variable {cI cZ cO : ClassId} {e0 : Nat} {A A2 : gW} {h ra ia sa ua : Nat} {aR aI aM : Nat → Nat} {fs : Nat → Int32} {σ : Bk}
theorem rBq.k (q : rBq cI cZ cO e0 A h ra ia sa ua aR aI aM fs σ) : rBk cI cZ cO e0 A h σ := ⟨ra, ia, sa, ua, aR, aI, aM, fs, q⟩
theorem rBq.bu (q : rBq cI cZ cO e0 A h ra ia sa ua aR aI aM fs σ) {ms : List Pr} (hF : gF [5, 6, 7] (kRs σ).length A A2) (hm : rMa cI A2 (kRs σ).length ua ms) : rBq cI cZ cO e0 A2 h ra ia sa ua aR aI aM fs (kRs σ, kIs σ, kSt σ, ms, kMk σ) := by
  obtain ⟨q1, q2, q3, q4, q5, q6, q7, q8⟩ := q
  exact ⟨(hF.at rfl).trans q1, q2.keep' (hF.at rfl) (hF.at rfl) (hF.at rfl) (fun i hi => hF.at rfl), q3.keep' (hF.at rfl) (hF.at rfl) (hF.at rfl) (fun i hi => hF.at rfl), (hF.at rfl).trans q4, q5, hm, fun i hi => ⟨(q7 i hi).1.keep (hF.at2 (Nat.ne_of_lt hi)) (hF.at2 (Nat.ne_of_lt hi)) (hF.at2 (Nat.ne_of_lt hi)), (q7 i hi).2.keep (hF.at rfl) (hF.at rfl) (hF.at rfl)⟩, fun i hi => (q8 i hi).keep (hF.at rfl)⟩
theorem rBq.ma (q : rBq cI cZ cO e0 A h ra ia sa ua aR aI aM fs σ) {m : Nat} (hF : gF [0] 0 A A2) (fB : A2 (0, 0) = some (h, .inr (0, [.ref ra, .ref ia, .ref sa, .ref ua, .int (nI m - 1)]))) : rBq cI cZ cO e0 A2 h ra ia sa ua aR aI aM fs (kRs σ, kIs σ, kSt σ, kBu σ, m) := by
  obtain ⟨q1, q2, q3, q4, q5, q6, q7, q8⟩ := q
  exact ⟨fB, q2.keep' (hF.at rfl) (hF.at rfl) (hF.at rfl) (fun i hi => hF.at rfl), q3.keep' (hF.at rfl) (hF.at rfl) (hF.at rfl) (fun i hi => hF.at rfl), (hF.at rfl).trans q4, q5, q6.keep (hF.at rfl) (hF.at rfl) (hF.at rfl), fun i hi => ⟨(q7 i hi).1.keep (hF.at rfl) (hF.at rfl) (hF.at rfl), (q7 i hi).2.keep (hF.at rfl) (hF.at rfl) (hF.at rfl)⟩, fun i hi => (q8 i hi).keep (hF.at rfl)⟩
theorem rBq.st (q : rBq cI cZ cO e0 A h ra ia sa ua aR aI aM fs σ) {j : Nat} {v : Bool} (hF : gF [4] 0 A A2) (fS : A2 (4, 0) = some (sa, .inl (cZ, 4, .inl (upd fs j (bI v))))) : rBq cI cZ cO e0 A2 h ra ia sa ua aR aI aM (upd fs j (bI v)) (kRs σ, kIs σ, va_up (kSt σ) j v, kBu σ, kMk σ) := by
  obtain ⟨q1, q2, q3, q4, q5, q6, q7, q8⟩ := q
  refine ⟨(hF.at rfl).trans q1, q2.keep' (hF.at rfl) (hF.at rfl) (hF.at rfl) (fun i hi => hF.at rfl), q3.keep' (hF.at rfl) (hF.at rfl) (hF.at rfl) (fun i hi => hF.at rfl), fS, fun k hk => ?_, q6.keep (hF.at rfl) (hF.at rfl) (hF.at rfl), fun i hi => ⟨(q7 i hi).1.keep (hF.at rfl) (hF.at rfl) (hF.at rfl), (q7 i hi).2.keep (hF.at rfl) (hF.at rfl) (hF.at rfl)⟩, fun i hi => (q8 i hi).keep (hF.at rfl)⟩
  show upd fs j (bI v) k = bI (va_up (kSt σ) j v k)
  unfold upd va_up
  split
  · rfl
  · exact q5 k hk
theorem getD_set {α : Type} {l : List α} {i j : Nat} {x d : α} (hi : i < l.length) : (l.set i x).getD j d = if j = i then x else l.getD j d := by
  simp only [List.getD_eq_getElem?_getD, List.getElem?_set]
  by_cases e : i = j
  · subst e; simp [hi]
  · simp [e, Ne.symm e]
theorem rBq.it (q : rBq cI cZ cO e0 A h ra ia sa ua aR aI aM fs σ) {i : Nat} {t : It} (hi : i < (kIs σ).length) (hF : gF [11] i A A2) (ht : rIn A2 i (aI i) t) : rBq cI cZ cO e0 A2 h ra ia sa ua aR aI aM fs (kRs σ, (kIs σ).set i t, kSt σ, kBu σ, kMk σ) := by
  obtain ⟨q1, q2, q3, q4, q5, q6, q7, q8⟩ := q
  refine ⟨(hF.at rfl).trans q1, q2.keep' (hF.at rfl) (hF.at rfl) (hF.at rfl) (fun i hi => hF.at rfl), ?_, (hF.at rfl).trans q4, q5, q6.keep (hF.at rfl) (hF.at rfl) (hF.at rfl), fun i hi => ⟨(q7 i hi).1.keep (hF.at rfl) (hF.at rfl) (hF.at rfl), (q7 i hi).2.keep (hF.at rfl) (hF.at rfl) (hF.at rfl)⟩, fun j hj => ?_⟩
  · show rAL cO e0 A2 1 11 3 ia ((kIs σ).set i t).length aI
    rw [List.length_set]
    refine q3.keep (hF.at rfl) (hF.at rfl) (hF.at rfl) (fun j hj a fs hfs => ?_)
    by_cases e : j = i
    · subst e
      have e1 : a = aI j := by
        have := (q8 j hj).symm.trans hfs
        injection this with this
        injection this with this
        exact this.symm
      subst e1
      exact ⟨_, ht⟩
    · exact ⟨fs, (hF.at2 e).trans hfs⟩
  · show rIn A2 j (aI j) (((kIs σ).set i t).getD j i0)
    have hj' : j < (kIs σ).length := by have h9 : j < ((kIs σ).set i t).length := hj; rw [List.length_set] at h9; exact h9
    rw [getD_set hi]
    by_cases e : j = i
    · rw [if_pos e, e]; exact ht
    · rw [if_neg e]; exact (q8 j hj').keep (hF.at2 e)
theorem rBq.ru (q : rBq cI cZ cO e0 A h ra ia sa ua aR aI aM fs σ) {i : Nat} {r : Ru} (hi : i < (kRs σ).length) (hF : gF [8, 9, 10] i A A2) (hr : rRu cI A2 i (aR i) (aM i) r) (hms : uMs r = uMs ((kRs σ).getD i u0)) : rBq cI cZ cO e0 A2 h ra ia sa ua aR aI aM fs ((kRs σ).set i r, kIs σ, kSt σ, kBu σ, kMk σ) := by
  obtain ⟨q1, q2, q3, q4, q5, q6, q7, q8⟩ := q
  refine ⟨(hF.at rfl).trans q1, ?_, q3.keep' (hF.at rfl) (hF.at rfl) (hF.at rfl) (fun i hi => hF.at rfl), (hF.at rfl).trans q4, q5, ?_, fun j hj => ?_, fun i hi => (q8 i hi).keep (hF.at rfl)⟩
  · show rAL cO e0 A2 0 8 2 ra ((kRs σ).set i r).length aR
    rw [List.length_set]
    refine q2.keep (hF.at rfl) (hF.at rfl) (hF.at rfl) (fun j hj a fs hfs => ?_)
    by_cases e : j = i
    · subst e
      obtain ⟨_, _, _, _, g1, -⟩ := (q7 j hj).2
      have e1 : a = aR j := by
        have := g1.symm.trans hfs
        injection this with this
        injection this with this
        exact this.symm
      subst e1
      obtain ⟨_, _, _, _, g2, -⟩ := hr
      exact ⟨_, g2⟩
    · exact ⟨fs, (hF.at2 e).trans hfs⟩
  · show rMa cI A2 ((kRs σ).set i r).length ua (kBu σ)
    rw [List.length_set]
    exact q6.keep (hF.at rfl) (hF.at rfl) (hF.at rfl)
  · show rMa cI A2 j (aM j) (uMs (((kRs σ).set i r).getD j u0)) ∧ rRu cI A2 j (aR j) (aM j) (((kRs σ).set i r).getD j u0)
    have hj' : j < (kRs σ).length := by have h9 : j < ((kRs σ).set i r).length := hj; rw [List.length_set] at h9; exact h9
    rw [getD_set hi]
    by_cases e : j = i
    · subst e
      rw [if_pos rfl, hms]
      exact ⟨(q7 j hj').1.keep (hF.at rfl) (hF.at rfl) (hF.at rfl), hr⟩
    · rw [if_neg e]
      exact ⟨(q7 j hj').1.keep (hF.at rfl) (hF.at rfl) (hF.at rfl), (q7 j hj').2.keep (hF.at2 e) (hF.at2 e) (hF.at2 e)⟩
theorem rBq.ai (q : rBq cI cZ cO e0 A h ra ia sa ua aR aI aM fs σ) {A1 : gW} {x : Nat} {t : It} (hF1 : gF [11] (kIs σ).length A A1) (hF2 : gF [1, 2, 12] 1 A1 A2) (hL : rAL cO e0 A2 1 11 3 ia ((kIs σ).length + 1) (va_up aI (kIs σ).length x)) (ht : rIn A1 (kIs σ).length x t) : rBq cI cZ cO e0 A2 h ra ia sa ua aR (va_up aI (kIs σ).length x) aM fs (kRs σ, kIs σ ++ [t], kSt σ, kBu σ, kMk σ) := by
  obtain ⟨q1, q2, q3, q4, q5, q6, q7, q8⟩ := q
  have at1 : ∀ n j, n ≠ 11 → n ≠ 1 → n ≠ 2 → n ≠ 12 → A2 (n, j) = A (n, j) := fun n j h1 h2 h3 h4 => (hF2 (n, j) (fun z => by simp at z; omega)).trans (hF1 (n, j) (fun z => by simp at z; omega))
  have at0 : ∀ n, n ≠ 11 → A2 (n, 0) = A (n, 0) := fun n h1 => (hF2 (n, 0) (fun z => by simp at z)).trans (hF1 (n, 0) (fun z => by simp at z; omega))
  have ati : ∀ j, j < (kIs σ).length → A2 (11, j) = A (11, j) := fun j hj => (hF2 (11, j) (fun z => by simp at z)).trans (hF1 (11, j) (fun z => by simp at z; omega))
  refine ⟨(at1 0 0 (by decide) (by decide) (by decide) (by decide)).trans q1, q2.keep' (at0 1 (by decide)) (at0 2 (by decide)) (at0 3 (by decide)) (fun i hi => at1 8 i (by decide) (by decide) (by decide) (by decide)), ?_, (at0 4 (by decide)).trans q4, q5, q6.keep (at1 _ _ (by decide) (by decide) (by decide) (by decide)) (at1 _ _ (by decide) (by decide) (by decide) (by decide)) (at1 _ _ (by decide) (by decide) (by decide) (by decide)), fun i hi => ⟨(q7 i hi).1.keep (at1 _ _ (by decide) (by decide) (by decide) (by decide)) (at1 _ _ (by decide) (by decide) (by decide) (by decide)) (at1 _ _ (by decide) (by decide) (by decide) (by decide)), (q7 i hi).2.keep (at1 _ _ (by decide) (by decide) (by decide) (by decide)) (at1 _ _ (by decide) (by decide) (by decide) (by decide)) (at1 _ _ (by decide) (by decide) (by decide) (by decide))⟩, fun j hj => ?_⟩
  · show rAL cO e0 A2 1 11 3 ia (kIs σ ++ [t]).length _
    rw [List.length_append]
    exact hL
  · have hj' : j < (kIs σ).length + 1 := by have h9 : j < (kIs σ ++ [t]).length := hj; simpa using h9
    show rIn A2 j (va_up aI (kIs σ).length x j) ((kIs σ ++ [t]).getD j i0)
    by_cases e : j = (kIs σ).length
    · rw [e, getD_r, va_up, if_pos rfl]
      exact ht.keep (hF2 (11, _) (fun z => by simp at z))
    · rw [getD_l (by omega), va_up, if_neg e]
      exact (q8 j (by omega)).keep (ati j (by omega))
theorem rBq.ar (q : rBq cI cZ cO e0 A h ra ia sa ua aR aI aM fs σ) {A1 A3 : gW} {x u2 : Nat} {r : Ru} (hF1 : gF [8, 9, 10] (kRs σ).length A A1) (hF2 : gF [1, 2, 12] 0 A1 A2) (hF3 : gF [5, 6, 7] ((kRs σ).length + 1) A2 A3) {A4 : gW} (hF4 : gF [0] 0 A3 A4) (hL : rAL cO e0 A2 0 8 2 ra ((kRs σ).length + 1) (va_up aR (kRs σ).length x)) (hr : rRu cI A1 (kRs σ).length x ua r) (hms : uMs r = kBu σ) (hm : rMa cI A3 ((kRs σ).length + 1) u2 []) (fB : A4 (0, 0) = some (h, .inr (0, [.ref ra, .ref ia, .ref sa, .ref u2, .int (nI (kMk σ) - 1)]))) : rBq cI cZ cO e0 A4 h ra ia sa u2 (va_up aR (kRs σ).length x) aI (va_up aM (kRs σ).length ua) fs (kRs σ ++ [r], kIs σ, kSt σ, [], kMk σ) := by
  obtain ⟨q1, q2, q3, q4, q5, q6, q7, q8⟩ := q
  have at4 : ∀ n j, n ≠ 0 → A4 (n, j) = A3 (n, j) := fun n j h1 => hF4 (n, j) (fun z => by simp at z; omega)
  have at3 : ∀ n j, n ≠ 5 ∧ n ≠ 6 ∧ n ≠ 7 ∨ j ≤ (kRs σ).length → A3 (n, j) = A2 (n, j) := fun n j h1 => hF3 (n, j) (fun z => by simp at z; omega)
  have at2 : ∀ n j, n ≠ 1 ∧ n ≠ 2 ∧ n ≠ 12 ∨ j ≠ 0 → A2 (n, j) = A1 (n, j) := fun n j h1 => hF2 (n, j) (fun z => by simp at z; omega)
  have at1 : ∀ n j, n ≠ 8 ∧ n ≠ 9 ∧ n ≠ 10 ∨ j ≠ (kRs σ).length → A1 (n, j) = A (n, j) := fun n j h1 => hF1 (n, j) (fun z => by simp at z; omega)
  have all : ∀ n j, n ≠ 0 → (n ≠ 5 ∧ n ≠ 6 ∧ n ≠ 7 ∨ j ≤ (kRs σ).length) → (n ≠ 1 ∧ n ≠ 2 ∧ n ≠ 12 ∨ j ≠ 0) → (n ≠ 8 ∧ n ≠ 9 ∧ n ≠ 10 ∨ j ≠ (kRs σ).length) → A4 (n, j) = A (n, j) := fun n j h1 h2 h3 h4 => (at4 n j h1).trans ((at3 n j h2).trans ((at2 n j h3).trans (at1 n j h4)))
  refine ⟨fB, ?_, q3.keep' (all _ _ (by omega) (by omega) (by omega) (by omega)) (all _ _ (by omega) (by omega) (by omega) (by omega)) (all _ _ (by omega) (by omega) (by omega) (by omega)) (fun i hi => all _ _ (by omega) (by omega) (by omega) (by omega)), (all _ _ (by omega) (by omega) (by omega) (by omega)).trans q4, q5, ?_, fun j hj => ?_, fun i hi => (q8 i hi).keep (all _ _ (by omega) (by omega) (by omega) (by omega))⟩
  · show rAL cO e0 A4 0 8 2 ra (kRs σ ++ [r]).length _
    rw [List.length_append]
    exact hL.keep' ((at4 _ _ (by omega)).trans (at3 _ _ (by omega))) ((at4 _ _ (by omega)).trans (at3 _ _ (by omega))) ((at4 _ _ (by omega)).trans (at3 _ _ (by omega))) (fun i hi => (at4 _ _ (by omega)).trans (at3 _ _ (by omega)))
  · show rMa cI A4 (kRs σ ++ [r]).length u2 []
    rw [List.length_append]
    exact hm.keep (at4 _ _ (by omega)) (at4 _ _ (by omega)) (at4 _ _ (by omega))
  · have hj' : j < (kRs σ).length + 1 := by have h9 : j < (kRs σ ++ [r]).length := hj; simpa using h9
    show rMa cI A4 j (va_up aM (kRs σ).length ua j) (uMs ((kRs σ ++ [r]).getD j u0)) ∧ rRu cI A4 j (va_up aR (kRs σ).length x j) (va_up aM (kRs σ).length ua j) ((kRs σ ++ [r]).getD j u0)
    by_cases e : j = (kRs σ).length
    · rw [e, getD_r, va_up, va_up, if_pos rfl, if_pos rfl, hms]
      exact ⟨q6.keep (all _ _ (by omega) (by omega) (by omega) (by omega)) (all _ _ (by omega) (by omega) (by omega) (by omega)) (all _ _ (by omega) (by omega) (by omega) (by omega)), hr.keep ((at4 _ _ (by omega)).trans ((at3 _ _ (by omega)).trans (at2 _ _ (by omega)))) ((at4 _ _ (by omega)).trans ((at3 _ _ (by omega)).trans (at2 _ _ (by omega)))) ((at4 _ _ (by omega)).trans ((at3 _ _ (by omega)).trans (at2 _ _ (by omega))))⟩
    · rw [getD_l (by omega), va_up, va_up, if_neg e, if_neg e]
      exact ⟨(q7 j (by omega)).1.keep (all _ _ (by omega) (by omega) (by omega) (by omega)) (all _ _ (by omega) (by omega) (by omega) (by omega)) (all _ _ (by omega) (by omega) (by omega) (by omega)), (q7 j (by omega)).2.keep (all _ _ (by omega) (by omega) (by omega) (by omega)) (all _ _ (by omega) (by omega) (by omega) (by omega)) (all _ _ (by omega) (by omega) (by omega) (by omega))⟩
end RB
end
section
/-! What the writing calls do. -/
def sMatcher (σ : Bk) (k v : Int32) : Bk × Int32 := if inR k 0 5 then (if 3 ≤ (kBu σ).length then (σ, -2) else ((kRs σ, kIs σ, kSt σ, kBu σ ++ [(k, v)], kMk σ), nI (kBu σ ++ [(k, v)]).length)) else (σ, -1)
def sDrop (σ : Bk) : Bk := (kRs σ, kIs σ, kSt σ, [], kMk σ)
def sRewind (σ : Bk) : Bk × Int32 := ((kRs σ, kIs σ, kSt σ, kBu σ, 0), nI (kMk σ) - 1)
def sStrict (σ : Bk) (m : Int32) (on : Bool) : Bk × Int32 := if inR m 0 3 then ((kRs σ, kIs σ, va_up (kSt σ) m.toNatClampNeg on, kBu σ, kMk σ), bI (kSt σ m.toNatClampNeg)) else (σ, -1)
def uAdd (r : Ru) (k v : Int32) : Ru := (uMk r, uMt r, uMs r, uAc r ++ [(k, v)], uUs r, uLv r)
def sThen (σ : Bk) (x k v : Int32) : Bk × Int32 := if inR x 0 (nI (kRs σ).length - 1) then (if uLv ((kRs σ).getD x.toNatClampNeg u0) && allw (uMt ((kRs σ).getD x.toNatClampNeg u0)) k v then (if 4 ≤ (uAc ((kRs σ).getD x.toNatClampNeg u0)).length then (σ, -2) else (((kRs σ).set x.toNatClampNeg (uAdd ((kRs σ).getD x.toNatClampNeg u0) k v), kIs σ, kSt σ, kBu σ, kMk σ), nI (uAc ((kRs σ).getD x.toNatClampNeg u0) ++ [(k, v)]).length)) else (σ, -1)) else (σ, -1)
def sRule (σ : Bk) (m t : Int32) : Bk × Int32 := if inR m 0 3 && inR t 0 7 then (if (kBu σ).length = t.toNatClampNeg % 4 then (if 24 ≤ (kRs σ).length then (σ, -2) else ((kRs σ ++ [(m.toNatClampNeg, t.toNatClampNeg, kBu σ, [], 0, true)], kIs σ, kSt σ, [], kMk σ), nI (kRs σ).length)) else (σ, -1)) else (σ, -1)
def iVer (t : It) : It := (iMk t, iMt t, iX t, iDp t, iFr t, iRu t, iAn t, true, iLv t)
def iEnd (t : It) : It := (iMk t, iMt t, iX t, iDp t, iFr t, iRu t, iAn t, iVe t, false)
def uEnd (r : Ru) : Ru := (uMk r, uMt r, uMs r, uAc r, uUs r, false)
def sInOrder (σ : Bk) (m t : Int32) : Bk × Int32 := if inR m 0 3 && inR t 0 7 then (if (kBu σ).length = t.toNatClampNeg % 4 then (if fst' (qAsk σ m.toNatClampNeg t.toNatClampNeg) ((kIs σ).length - kMk σ) (kMk σ) = -10 then ((kRs σ, kIs σ, kSt σ, [], kMk σ), -10) else ((kRs σ, (kIs σ).set (fst' (qAsk σ m.toNatClampNeg t.toNatClampNeg) ((kIs σ).length - kMk σ) (kMk σ)).toNatClampNeg (iVer ((kIs σ).getD (fst' (qAsk σ m.toNatClampNeg t.toNatClampNeg) ((kIs σ).length - kMk σ) (kMk σ)).toNatClampNeg i0)), kSt σ, [], (fst' (qAsk σ m.toNatClampNeg t.toNatClampNeg) ((kIs σ).length - kMk σ) (kMk σ)).toNatClampNeg + 1), fst' (qAsk σ m.toNatClampNeg t.toNatClampNeg) ((kIs σ).length - kMk σ) (kMk σ))) else (σ, -1)) else (σ, -1)
def gVer (bu : List Pr) (mk mt : Nat) (t : It) : It := if iAsk bu mk mt t then iVer t else t
def sVerify (σ : Bk) (m t md n : Int32) : Bk × Int32 := if inR m 0 3 && inR t 0 7 && inR md 0 2 then (if (kBu σ).length = t.toNatClampNeg % 4 then (if wantd (nI (cnt (qAsk σ m.toNatClampNeg t.toNatClampNeg) (kIs σ).length)) md n then ((kRs σ, (kIs σ).map (gVer (kBu σ) m.toNatClampNeg t.toNatClampNeg), kSt σ, [], kMk σ), nI (cnt (qAsk σ m.toNatClampNeg t.toNatClampNeg) (kIs σ).length)) else ((kRs σ, kIs σ, kSt σ, [], kMk σ), -10 - nI (cnt (qAsk σ m.toNatClampNeg t.toNatClampNeg) (kIs σ).length))) else (σ, -1)) else (σ, -1)
def gEndI (mk : Nat) (t : It) : It := if iLv t && decide (iMk t = mk) then iEnd t else t
def gEndR (mk : Nat) (r : Ru) : Ru := if decide (uMk r = mk) then uEnd r else r
def qEnd (is : List It) (mk : Nat) (i : Nat) : Bool := iLv (is.getD i i0) && decide (iMk (is.getD i i0) = mk)
def sReset (σ : Bk) (m : Int32) : Bk × Int32 := if inR m 0 3 then (((kRs σ).map (gEndR m.toNatClampNeg), (kIs σ).map (gEndI m.toNatClampNeg), kSt σ, kBu σ, kMk σ), nI (cnt (qEnd (kIs σ) m.toNatClampNeg) (kIs σ).length)) else (σ, -1)
/-- the first i of a list are changed by g -/
def upT {α : Type} (g : α → α) (i : Nat) (l : List α) : List α := (l.take i).map g ++ l.drop i
theorem upT_0 {α : Type} (g : α → α) (l : List α) : upT g 0 l = l := rfl
theorem upT_all {α : Type} (g : α → α) {i : Nat} (l : List α) (h : l.length ≤ i) : upT g i l = l.map g := by
  unfold upT
  rw [List.take_of_length_le h, List.drop_eq_nil_of_le h, List.append_nil]
theorem upT_len {α : Type} (g : α → α) (i : Nat) (l : List α) : (upT g i l).length = l.length := by
  unfold upT
  simp
  omega
theorem upT_get {α : Type} (g : α → α) {i j : Nat} (l : List α) (d : α) (h : i ≤ j) : (upT g i l).getD j d = l.getD j d := by
  unfold upT
  by_cases hj : j < l.length
  · rw [List.getD_eq_getElem?_getD, List.getD_eq_getElem?_getD, List.getElem?_append_right (by simp; omega), List.getElem?_drop]
    congr 2
    simp
    omega
  · rw [List.getD_eq_getElem?_getD, List.getD_eq_getElem?_getD, List.getElem?_eq_none (by simp; omega), List.getElem?_eq_none (by omega)]
theorem upT_lt {α : Type} (g : α → α) {i j : Nat} (l : List α) (d : α) (h : j < i) (hj : j < l.length) : (upT g i l).getD j d = g (l.getD j d) := by
  unfold upT
  rw [List.getD_eq_getElem?_getD, List.getD_eq_getElem?_getD, List.getElem?_append_left (by simp; omega)]
  simp [hj, h]
theorem ext_getD {α : Type} {l l' : List α} (d : α) (h : l.length = l'.length) (hg : ∀ j, j < l.length → l.getD j d = l'.getD j d) : l = l' := by
  refine List.ext_getElem h (fun j h1 h2 => ?_)
  have := hg j h1
  simpa [List.getD_eq_getElem?_getD, h1, h2] using this
theorem upT_s {α : Type} (g : α → α) {i : Nat} (l : List α) (d : α) (hi : i < l.length) : upT g (i + 1) l = (upT g i l).set i (g (l.getD i d)) := by
  refine ext_getD d (by rw [List.length_set, upT_len, upT_len]) (fun j hj => ?_)
  rw [upT_len] at hj
  rw [getD_set (by rw [upT_len]; exact hi)]
  by_cases e : j = i
  · subst e; rw [if_pos rfl, upT_lt g l d (by omega) hj]
  · rw [if_neg e]
    by_cases hl : j < i
    · rw [upT_lt g l d (by omega) hj, upT_lt g l d hl hj]
    · rw [upT_get g l d (by omega), upT_get g l d (by omega)]
theorem upT_k {α : Type} (g : α → α) {i : Nat} (l : List α) (d : α) (hi : i < l.length) (h : g (l.getD i d) = l.getD i d) : upT g (i + 1) l = upT g i l := by
  refine ext_getD d (by rw [upT_len, upT_len]) (fun j hj => ?_)
  rw [upT_len] at hj
  by_cases hl : j < i
  · rw [upT_lt g l d (by omega) hj, upT_lt g l d hl hj]
  · by_cases e : j = i
    · subst e; rw [upT_lt g l d (by omega) hj, upT_get g l d (by omega)]; exact h
    · rw [upT_get g l d (by omega), upT_get g l d (by omega)]
end
section
set_option maxHeartbeats 4000000 in
set_option maxRecDepth 100000 in
theorem c_AL_add (l : Launch) {D : va_G} {cI cZ cO cL : ClassId} {b e0 : Nat} {A : gW} {w kk ci h n : Nat} {ad : Nat → Nat} (hL : rAL cO e0 A w kk ci h n ad) (hn : n < 160) (hkk : kk ≠ 1 ∧ kk ≠ 2 ∧ kk ≠ 12) (hci : ci = 2 ∨ ci = 3) {x : Nat} {fsx : List Value} (hx0 : A (kk, n) = some (x, .inr (ci, fsx))) : Met l y_AL_add (Cond.code y_AL_add b_AL_add 2 (some .boolean) :: TT) ({ frames := 6, cells := 1, slots := 240, locals := 150 }) (va_Pc [.ref h, .ref x] (gI D [(cI, .int), (cZ, .boolean), (cO, .object "java/lang/Object"), (cL, .long)] b e0 A)) (va_Qi (fun (z : Int32) (A2 : gW) => rAL cO e0 A2 w kk ci h (n + 1) (va_up ad n x) ∧ gF [1, 2, 12] w A A2) (fun A2 t => gP D classes b A2 t.heap) (fun q => b ≤ q)) 1 240 (fun q => b ≤ q) := by
  refine Met.ofG (own := R_AL) (by decide +kernel) rfl (Nat.le_of_ble_eq_true rfl) ?_
  intro p e s m below meth c ls hx hb hr hlk hml hown hnm hts hI hl
  have hl : lv_has ls 2 [(0, .ref h), (1, .ref x)] := hl
  have hS : gS b s.heap s.heap [] := va_S.rf
  obtain ⟨hP, hK⟩ := hI
  obtain ⟨mo, q, cap, f, fL, hq, fE, hel⟩ := id hL
  refine lv_aload_n hx hb d_AL_add_0 rfl (lv_at hl 0 rfl) ?_
  refine lv_dup hx hb d_AL_add_1 rfl ?_
  refine g_get hx hb hts i_AL hown hK.1 hP fL rfl 0 (by decide) (hts _ k_40) (fun x9 h9 => u_same (hts _ k_41) x9 h9) rfl d_AL_add_2 ?_
  refine lv_iconst (v := 1) hx hb d_AL_add_5 (by decide) ?_
  refine lv_iadd hx hb d_AL_add_6 ?_
  refine g_put (ty := .int) (v := .int (mo + 1)) hx hb hts i_AL t_AL t_AL_ok n_AL hown hK.1 hP hS fL rfl 0 (by decide) (hts _ k_40) (fun x9 h9 => u_same (hts _ k_41) x9 h9) rfl (by decide +kernel) rfl rfl (Nat.le_of_ble_eq_true rfl) d_AL_add_7 (fun H locs hP hS => ?_)
  obtain ⟨A1, eA1⟩ : ∃ z, z = gU A (1, w) (h, .inr (4, [.int (mo + 1), .ref q, .int (nI n)])) := ⟨_, rfl⟩
  replace hP : gP D classes b A1 H := by rw [eA1]; exact hP
  have f2 : A1 (1, w) = some (h, .inr (4, [.int (mo + 1), .ref q, .int (nI n)])) := by rw [eA1]; exact gU_s
  have gA1 : gF [1, 2, 12] w A A1 := by rw [eA1]; exact gF_U gF.rf (by decide)
  refine lv_aload_n hx hb d_AL_add_10 rfl (lv_at hl 0 rfl) ?_
  refine lv_aload_n hx hb d_AL_add_11 rfl (lv_at hl 1 rfl) ?_
  refine lv_aload_n hx hb d_AL_add_12 rfl (lv_at hl 0 rfl) ?_
  refine g_get hx hb hts i_AL hown hK.1 hP f2 rfl 1 (by decide) (hts _ k_37) (fun _ h9 => h9) rfl d_AL_add_13 ?_
  refine lv_aload_n hx hb d_AL_add_16 rfl (lv_at hl 0 rfl) ?_
  refine g_get hx hb hts i_AL hown hK.1 hP f2 rfl 2 (by decide) (hts _ k_38) (fun _ h9 => h9) rfl d_AL_add_17 ?_
  have hq1 : n = 0 ∧ q = e0 ∨ (A1 (2, w) = some (q, .inl (cO, cap, .inr (.inr (.inr (.inr f))))) ∧ 2 ≤ cap ∧ n ≤ cap ∧ cap ≤ 240 ∧ ∀ i, i < n → f i = some (ad i)) := hq.imp id (fun z => ⟨((by rw [eA1]; exact gU_n (gne (show (2 : Nat) ≠ 1 by decide)) : A1 (2, w) = A (2, w))).trans z.1, z.2⟩)
  have hel1 : ∀ i, i < n → ∃ fs, A1 (kk, i) = some (ad i, .inr (ci, fs)) := fun i hi => (hel i hi).elim fun fs h => ⟨fs, (gA1 (kk, i) (fun z => by simp at z; omega)).trans h⟩
  have hx1 := (gA1 (kk, n) (fun z => by simp at z; omega)).trans hx0
  refine g_cv (B := fun A2 H => gP D classes b A2 H) (g_runV (As := [.ref x, .ref q, .int (nI n)]) (rest := []) ⟨hx, hb, hml, hown, hts⟩ (c_AL_add3 l f2 hq1 ((gA1.at (n := 3) (j := 0) (by decide)).trans fE) hel1 hn hkk hci hx1) st_AL_add3 k_165 ⟨rfl, rfl, by decide, by decide⟩ rfl (gI.preV hK hS hP f2 rfl _) rfl hl.1 rfl (Nat.le_of_ble_eq_true rfl) d_AL_add_20 ⟨by decide, by decide⟩) hS (fun A3 H locs hp4 hP hS => ?_)
  replace hP : gP D classes b A3 H := hP
  refine W.widen (k := 1) (n := 240) (by decide) (by decide) ?_
  obtain ⟨hL2, gL2⟩ := hp4
  have gL3 := gA1.trans gL2
  refine lv_iconst (v := 1) hx hb d_AL_add_23 (by decide) ?_
  refine W.widen (k := 1) (n := 240) (by decide) (by decide) ?_
  exact W.zret hx hb hr rfl (fun t ht _ => ⟨⟨_, A3, rfl, ⟨hL2, gL3⟩, show gP D classes b A3 t.heap by rw [ht]; exact hP⟩, hS.F ht⟩) hS.2.2 d_AL_add_24
set_option maxHeartbeats 4000000 in
set_option maxRecDepth 100000 in
theorem c_MB_matcher (l : Launch) {D : va_G} {cI cZ cO cL : ClassId} {b e0 : Nat} {A : gW} {h : Nat} {σ : Bk} (hB : rBk cI cZ cO e0 A h σ) (hw : wf σ) (k v : Int32) : Met l y_MB_matcher (Cond.code y_MB_matcher b_MB_matcher 3 (some .int) :: TT) ({ frames := 1, cells := 0, slots := 0, locals := 22 }) (va_Pc [.ref h, .int k, .int v] (gI D [(cI, .int), (cZ, .boolean), (cO, .object "java/lang/Object"), (cL, .long)] b e0 A)) (va_Qi (fun (z : Int32) (A2 : gW) => z = (sMatcher σ k v).2 ∧ rBk cI cZ cO e0 A2 h (sMatcher σ k v).1 ∧ gO A A2) (fun A2 t => gP D classes b A2 t.heap) (fun q => b ≤ q)) 0 0 (fun q => b ≤ q) := by
  refine Met.ofG (own := R_MB) (by decide +kernel) rfl (Nat.le_of_ble_eq_true rfl) ?_
  intro p e s m below meth c ls hx hb hr hlk hml hown hnm hts hI hl
  have hl : lv_has ls 3 [(0, .ref h), (1, .int k), (2, .int v)] := hl
  have hS : gS b s.heap s.heap [] := va_S.rf
  obtain ⟨hP, hK⟩ := hI
  obtain ⟨ra, ia, sa, ua, aR, aI, aM, fs, fB, hLR, hLI, fS, hfs, hBu, hRs, hIs⟩ := id hB
  obtain ⟨w1, w2, w3, w4, w5, w6, w7, w8⟩ := id hw
  obtain ⟨moR, qR, capR, efR, fLR, -⟩ := id hLR
  obtain ⟨moI, qI, capI, efI, fLI, -⟩ := id hLI
  obtain ⟨hk, hv, fk, fv, fM, fK, fV, hn3, hms⟩ := id hBu
  have hQ : rBq cI cZ cO e0 A h ra ia sa ua aR aI aM fs σ := ⟨fB, hLR, hLI, fS, hfs, hBu, hRs, hIs⟩
  refine lv_iload_n hx hb d_MB_matcher_0 rfl (lv_at hl 1 rfl) ?_
  refine lv_iconst (v := 0) hx hb d_MB_matcher_1 (by decide) ?_
  refine lv_iconst (v := 5) hx hb d_MB_matcher_2 (by decide) ?_
  refine g_ri (g_runS (As := [.int k, .int 0, .int 5]) (rest := []) ⟨hx, hb, hml, hown, hts⟩ (c_MB_isWithin l k 0 5) st_MB_isWithin k_88 ⟨rfl, rfl, by decide, by decide⟩ (gT_pre _) rfl hl.1 rfl (Nat.le_of_ble_eq_true rfl) d_MB_matcher_3 ⟨by decide, by decide⟩) (fun r1 hr1 => ?_)
  subst hr1
  refine lv_if_ne (tgt := 11) hx hb d_MB_matcher_6 (by decide) (fun c2 => ?_) (fun c2 => ?_)
  · skip
    rw [bI_0] at c2
    refine lv_aload_n hx hb d_MB_matcher_11 rfl (lv_at hl 0 rfl) ?_
    refine g_get hx hb hts i_MB hown hK.1 hP fB rfl 3 (by decide) (hts _ k_71) (fun _ h9 => h9) rfl d_MB_matcher_12 ?_
    refine g_get hx hb hts i_Ma hown hK.1 hP fM rfl 2 (by decide) (hts _ k_58) (fun _ h9 => h9) rfl d_MB_matcher_15 ?_
    refine lv_iconst (v := 3) hx hb d_MB_matcher_18 (by decide) ?_
    refine lv_icmp_lt (tgt := 25) hx hb d_MB_matcher_19 (by decide) (fun c3 => ?_) (fun c3 => ?_)
    · skip
      replace c3 : (kBu σ).length < 3 := (nI_ltI (a := (kBu σ).length) (b := 3) (by omega) (by decide)).mp c3
      refine lv_aload_n hx hb d_MB_matcher_25 rfl (lv_at hl 0 rfl) ?_
      refine g_get hx hb hts i_MB hown hK.1 hP fB rfl 3 (by decide) (hts _ k_71) (fun _ h9 => h9) rfl d_MB_matcher_26 ?_
      refine lv_iload_n hx hb d_MB_matcher_29 rfl (lv_at hl 1 rfl) ?_
      refine lv_iload_n hx hb d_MB_matcher_30 rfl (lv_at hl 2 rfl) ?_
      refine g_cv (B := fun A2 H => gP D classes b A2 H) (g_runV (As := [.int k, .int v]) (rest := []) ⟨hx, hb, hml, hown, hts⟩ (c_Ma_add l hBu (by omega) k v) st_Ma_add k_91 ⟨rfl, rfl, by decide, by decide⟩ rfl (gI.preV hK hS hP fM rfl _) rfl hl.1 rfl (Nat.le_of_ble_eq_true rfl) d_MB_matcher_31 ⟨by decide, by decide⟩) hS (fun A4 H locs hp5 hP hS => ?_)
      replace hP : gP D classes b A4 H := hP
      refine W.widen (k := 0) (n := 0) (by decide) (by decide) ?_
      obtain ⟨hm2, gm2⟩ := hp5
      have f6 : A4 (0, 0) = some (h, .inr (0, [.ref ra, .ref ia, .ref sa, .ref ua, .int (nI (kMk σ) - 1)])) := (gm2.at (n := 0) (j := 0) (by decide)).trans fB
      have f7 : A4 (1, 0) = some (ra, .inr (4, [.int moR, .ref qR, .int (nI (kRs σ).length)])) := (gm2.at (n := 1) (j := 0) (by decide)).trans fLR
      have f8 : A4 (1, 1) = some (ia, .inr (4, [.int moI, .ref qI, .int (nI (kIs σ).length)])) := (gm2.at (n := 1) (j := 1) (by decide)).trans fLI
      have f9 : A4 (4, 0) = some (sa, .inl (cZ, 4, .inl fs)) := (gm2.at (n := 4) (j := 0) (by decide)).trans fS
      obtain ⟨hk2, hv2, fk2, fv2, fM2, fK2, fV2, hn32, hms2⟩ := id hm2
      refine lv_aload_n hx hb d_MB_matcher_34 rfl (lv_at hl 0 rfl) ?_
      refine g_get hx hb hts i_MB hown hK.1 hP f6 rfl 3 (by decide) (hts _ k_71) (fun _ h9 => h9) rfl d_MB_matcher_35 ?_
      refine g_get hx hb hts i_Ma hown hK.1 hP fM2 rfl 2 (by decide) (hts _ k_58) (fun _ h9 => h9) rfl d_MB_matcher_38 ?_
      have e9 : sMatcher σ k v = ((kRs σ, kIs σ, kSt σ, kBu σ ++ [(k, v)], kMk σ), nI (kBu σ ++ [(k, v)]).length) := by unfold sMatcher; rw [if_pos (by simp_all), if_neg (by omega)]
      refine W.widen (k := 0) (n := 0) (by decide) (by decide) ?_
      exact W.iret hx hb hr (fun t ht _ => ⟨⟨_, A4, rfl, ⟨by rw [e9], by rw [e9]; exact (hQ.bu gm2 hm2).k, gm2.out rfl⟩, show gP D classes b A4 t.heap by rw [ht]; exact hP⟩, hS.F ht⟩) hS.2.2 d_MB_matcher_41
    · skip
      replace c3 : ¬ (kBu σ).length < 3 := fun q => c3 ((nI_ltI (a := (kBu σ).length) (b := 3) (by omega) (by decide)).mpr q)
      refine lv_bipush (v := (-2)) hx hb d_MB_matcher_22 (by decide) ?_
      have e9 : sMatcher σ k v = (σ, -2) := by unfold sMatcher; rw [if_pos (by simp_all), if_pos (by omega)]
      refine W.widen (k := 0) (n := 0) (by decide) (by decide) ?_
      exact W.iret hx hb hr (fun t ht _ => ⟨⟨_, A, rfl, ⟨by rw [e9], by rw [e9]; exact hB, gO.rf⟩, show gP D classes b A t.heap by rw [ht]; exact hP⟩, hS.F ht⟩) hS.2.2 d_MB_matcher_24
  · skip
    rw [bI_0] at c2
    refine lv_iconst (v := (-1)) hx hb d_MB_matcher_9 (by decide) ?_
    have e9 : sMatcher σ k v = (σ, -1) := by simp_all [sMatcher]
    refine W.widen (k := 0) (n := 0) (by decide) (by decide) ?_
    exact W.iret hx hb hr (fun t ht _ => ⟨⟨_, A, rfl, ⟨by rw [e9], by rw [e9]; exact hB, gO.rf⟩, show gP D classes b A t.heap by rw [ht]; exact hP⟩, hS.F ht⟩) hS.2.2 d_MB_matcher_10
set_option maxHeartbeats 4000000 in
set_option maxRecDepth 100000 in
theorem c_MB_drop (l : Launch) {D : va_G} {cI cZ cO cL : ClassId} {b e0 : Nat} {A : gW} {h : Nat} {σ : Bk} (hB : rBk cI cZ cO e0 A h σ) (hw : wf σ)  : Met l y_MB_drop (Cond.code y_MB_drop b_MB_drop 1 none :: TT) ({ frames := 1, cells := 0, slots := 0, locals := 20 }) (va_Pc [.ref h] (gI D [(cI, .int), (cZ, .boolean), (cO, .object "java/lang/Object"), (cL, .long)] b e0 A)) (va_Qv (fun A2 : gW => rBk cI cZ cO e0 A2 h (sDrop σ) ∧ gO A A2) (fun A2 t => gP D classes b A2 t.heap) (fun q => b ≤ q)) 0 0 (fun q => b ≤ q) := by
  refine Met.ofG (own := R_MB) (by decide +kernel) rfl (Nat.le_of_ble_eq_true rfl) ?_
  intro p e s m below meth c ls hx hb hr hlk hml hown hnm hts hI hl
  have hl : lv_has ls 1 [(0, .ref h)] := hl
  have hS : gS b s.heap s.heap [] := va_S.rf
  obtain ⟨hP, hK⟩ := hI
  obtain ⟨ra, ia, sa, ua, aR, aI, aM, fs, fB, hLR, hLI, fS, hfs, hBu, hRs, hIs⟩ := id hB
  obtain ⟨w1, w2, w3, w4, w5, w6, w7, w8⟩ := id hw
  obtain ⟨moR, qR, capR, efR, fLR, -⟩ := id hLR
  obtain ⟨moI, qI, capI, efI, fLI, -⟩ := id hLI
  obtain ⟨hk, hv, fk, fv, fM, fK, fV, hn3, hms⟩ := id hBu
  have hQ : rBq cI cZ cO e0 A h ra ia sa ua aR aI aM fs σ := ⟨fB, hLR, hLI, fS, hfs, hBu, hRs, hIs⟩
  refine lv_aload_n hx hb d_MB_drop_0 rfl (lv_at hl 0 rfl) ?_
  refine g_get hx hb hts i_MB hown hK.1 hP fB rfl 3 (by decide) (hts _ k_71) (fun _ h9 => h9) rfl d_MB_drop_1 ?_
  refine g_cv (B := fun A2 H => gP D classes b A2 H) (g_runV (As := []) (rest := []) ⟨hx, hb, hml, hown, hts⟩ (c_Ma_clear l hBu) st_Ma_clear k_99 ⟨rfl, rfl, by decide, by decide⟩ rfl (gI.preV hK hS hP fM rfl _) rfl hl.1 rfl (Nat.le_of_ble_eq_true rfl) d_MB_drop_4 ⟨by decide, by decide⟩) hS (fun A1 H locs hp2 hP hS => ?_)
  replace hP : gP D classes b A1 H := hP
  refine W.widen (k := 0) (n := 0) (by decide) (by decide) ?_
  obtain ⟨hm2, gm2⟩ := hp2
  have f3 : A1 (0, 0) = some (h, .inr (0, [.ref ra, .ref ia, .ref sa, .ref ua, .int (nI (kMk σ) - 1)])) := (gm2.at (n := 0) (j := 0) (by decide)).trans fB
  have f4 : A1 (1, 0) = some (ra, .inr (4, [.int moR, .ref qR, .int (nI (kRs σ).length)])) := (gm2.at (n := 1) (j := 0) (by decide)).trans fLR
  have f5 : A1 (1, 1) = some (ia, .inr (4, [.int moI, .ref qI, .int (nI (kIs σ).length)])) := (gm2.at (n := 1) (j := 1) (by decide)).trans fLI
  have f6 : A1 (4, 0) = some (sa, .inl (cZ, 4, .inl fs)) := (gm2.at (n := 4) (j := 0) (by decide)).trans fS
  obtain ⟨hk2, hv2, fk2, fv2, fM2, fK2, fV2, hn32, hms2⟩ := id hm2
  refine W.widen (k := 0) (n := 0) (by decide) (by decide) ?_
  exact W.vret hx hb hr (fun t ht _ => ⟨⟨A1, rfl, ⟨(hQ.bu gm2 hm2).k, gm2.out rfl⟩, show gP D classes b A1 t.heap by rw [ht]; exact hP⟩, hS.F ht⟩) hS.2.2 d_MB_drop_7
set_option maxHeartbeats 4000000 in
set_option maxRecDepth 100000 in
theorem c_MB_rewind (l : Launch) {D : va_G} {cI cZ cO cL : ClassId} {b e0 : Nat} {A : gW} {h : Nat} {σ : Bk} (hB : rBk cI cZ cO e0 A h σ) (hw : wf σ)  : Met l y_MB_rewind (Cond.code y_MB_rewind b_MB_rewind 2 (some .int) :: TT) ({ frames := 0, cells := 0, slots := 0, locals := 0 }) (va_Pc [.ref h] (gI D [(cI, .int), (cZ, .boolean), (cO, .object "java/lang/Object"), (cL, .long)] b e0 A)) (va_Qi (fun (z : Int32) (A2 : gW) => z = (sRewind σ).2 ∧ rBk cI cZ cO e0 A2 h (sRewind σ).1 ∧ gO A A2) (fun A2 t => gP D classes b A2 t.heap) (fun q => b ≤ q)) 0 0 (fun q => b ≤ q) := by
  refine Met.ofG (own := R_MB) (by decide +kernel) rfl (Nat.le_of_ble_eq_true rfl) ?_
  intro p e s m below meth c ls hx hb hr hlk hml hown hnm hts hI hl
  have hl : lv_has ls 2 [(0, .ref h)] := hl
  have hS : gS b s.heap s.heap [] := va_S.rf
  obtain ⟨hP, hK⟩ := hI
  obtain ⟨ra, ia, sa, ua, aR, aI, aM, fs, fB, hLR, hLI, fS, hfs, hBu, hRs, hIs⟩ := id hB
  obtain ⟨w1, w2, w3, w4, w5, w6, w7, w8⟩ := id hw
  obtain ⟨moR, qR, capR, efR, fLR, -⟩ := id hLR
  obtain ⟨moI, qI, capI, efI, fLI, -⟩ := id hLI
  obtain ⟨hk, hv, fk, fv, fM, fK, fV, hn3, hms⟩ := id hBu
  have hQ : rBq cI cZ cO e0 A h ra ia sa ua aR aI aM fs σ := ⟨fB, hLR, hLI, fS, hfs, hBu, hRs, hIs⟩
  refine lv_aload_n hx hb d_MB_rewind_0 rfl (lv_at hl 0 rfl) ?_
  refine g_get hx hb hts i_MB hown hK.1 hP fB rfl 4 (by decide) (hts _ k_72) (fun _ h9 => h9) rfl d_MB_rewind_1 ?_
  refine lv_istore_n (lv' := [(1, .int (nI (kMk σ) - 1)), (0, .ref h)]) hx hb d_MB_rewind_4 rfl hl (by decide) rfl (fun ls hl => ?_)
  refine lv_aload_n hx hb d_MB_rewind_5 rfl (lv_at hl 1 rfl) ?_
  refine lv_iconst (v := (-1)) hx hb d_MB_rewind_6 (by decide) ?_
  refine g_put (ty := .int) (v := .int (-1)) hx hb hts i_MB t_MB t_MB_ok n_MB hown hK.1 hP hS fB rfl 4 (by decide) (hts _ k_72) (fun _ h9 => h9) rfl (by decide +kernel) rfl rfl (Nat.le_of_ble_eq_true rfl) d_MB_rewind_7 (fun H locs hP hS => ?_)
  obtain ⟨A1, eA1⟩ : ∃ z, z = gU A (0, 0) (h, .inr (0, [.ref ra, .ref ia, .ref sa, .ref ua, .int (-1)])) := ⟨_, rfl⟩
  replace hP : gP D classes b A1 H := by rw [eA1]; exact hP
  have f2 : A1 (1, 0) = some (ra, .inr (4, [.int moR, .ref qR, .int (nI (kRs σ).length)])) := (by rw [eA1]; exact gU_n (gne (show (1 : Nat) ≠ 0 by decide)) : A1 (1, 0) = A (1, 0)).trans fLR
  have f3 : A1 (1, 1) = some (ia, .inr (4, [.int moI, .ref qI, .int (nI (kIs σ).length)])) := (by rw [eA1]; exact gU_n (gne (show (1 : Nat) ≠ 0 by decide)) : A1 (1, 1) = A (1, 1)).trans fLI
  have f4 : A1 (4, 0) = some (sa, .inl (cZ, 4, .inl fs)) := (by rw [eA1]; exact gU_n (gne (show (4 : Nat) ≠ 0 by decide)) : A1 (4, 0) = A (4, 0)).trans fS
  have f5 : A1 (5, (kRs σ).length) = some (ua, .inr (1, [.ref hk, .ref hv, .int (nI (kBu σ).length)])) := (by rw [eA1]; exact gU_n (gne (show (5 : Nat) ≠ 0 by decide)) : A1 (5, (kRs σ).length) = A (5, (kRs σ).length)).trans fM
  have f6 : A1 (6, (kRs σ).length) = some (hk, .inl (cI, 3, .inl fk)) := (by rw [eA1]; exact gU_n (gne (show (6 : Nat) ≠ 0 by decide)) : A1 (6, (kRs σ).length) = A (6, (kRs σ).length)).trans fK
  have f7 : A1 (7, (kRs σ).length) = some (hv, .inl (cI, 3, .inl fv)) := (by rw [eA1]; exact gU_n (gne (show (7 : Nat) ≠ 0 by decide)) : A1 (7, (kRs σ).length) = A (7, (kRs σ).length)).trans fV
  have f8 : A1 (0, 0) = some (h, .inr (0, [.ref ra, .ref ia, .ref sa, .ref ua, .int (-1)])) := by rw [eA1]; exact gU_s
  have gA1 : gF [0] 0 A A1 := by rw [eA1]; exact gF_U gF.rf (by decide)
  refine lv_iload_n hx hb d_MB_rewind_10 rfl (lv_at hl 0 rfl) ?_
  have e9 : sRewind σ = ((kRs σ, kIs σ, kSt σ, kBu σ, 0), nI (kMk σ) - 1) := by rfl
  refine W.widen (k := 0) (n := 0) (by decide) (by decide) ?_
  exact W.iret hx hb hr (fun t ht _ => ⟨⟨_, A1, rfl, ⟨by rw [e9], by rw [e9]; exact (hQ.ma (m := 0) gA1 f8).k, gA1.out rfl⟩, show gP D classes b A1 t.heap by rw [ht]; exact hP⟩, hS.F ht⟩) hS.2.2 d_MB_rewind_11
set_option maxHeartbeats 4000000 in
set_option maxRecDepth 100000 in
theorem c_MB_strict (l : Launch) {D : va_G} {cI cZ cO cL : ClassId} {b e0 : Nat} {A : gW} {h : Nat} {σ : Bk} (hB : rBk cI cZ cO e0 A h σ) (hw : wf σ) (x : Int32) (on : Bool) : Met l y_MB_strict (Cond.code y_MB_strict b_MB_strict 4 (some .int) :: TT) ({ frames := 2, cells := 0, slots := 0, locals := 42 }) (va_Pc [.ref h, .int x, .int (bI on)] (gI D [(cI, .int), (cZ, .boolean), (cO, .object "java/lang/Object"), (cL, .long)] b e0 A)) (va_Qi (fun (z : Int32) (A2 : gW) => z = (sStrict σ x on).2 ∧ rBk cI cZ cO e0 A2 h (sStrict σ x on).1 ∧ gO A A2) (fun A2 t => gP D classes b A2 t.heap) (fun q => b ≤ q)) 0 0 (fun q => b ≤ q) := by
  refine Met.ofG (own := R_MB) (by decide +kernel) rfl (Nat.le_of_ble_eq_true rfl) ?_
  intro p e s m below meth c ls hx hb hr hlk hml hown hnm hts hI hl
  have hl : lv_has ls 4 [(0, .ref h), (1, .int x), (2, .int (bI on))] := hl
  have hS : gS b s.heap s.heap [] := va_S.rf
  obtain ⟨hP, hK⟩ := hI
  obtain ⟨ra, ia, sa, ua, aR, aI, aM, fs, fB, hLR, hLI, fS, hfs, hBu, hRs, hIs⟩ := id hB
  obtain ⟨w1, w2, w3, w4, w5, w6, w7, w8⟩ := id hw
  obtain ⟨moR, qR, capR, efR, fLR, -⟩ := id hLR
  obtain ⟨moI, qI, capI, efI, fLI, -⟩ := id hLI
  obtain ⟨hk, hv, fk, fv, fM, fK, fV, hn3, hms⟩ := id hBu
  have hQ : rBq cI cZ cO e0 A h ra ia sa ua aR aI aM fs σ := ⟨fB, hLR, hLI, fS, hfs, hBu, hRs, hIs⟩
  refine lv_iload_n hx hb d_MB_strict_0 rfl (lv_at hl 1 rfl) ?_
  refine g_ri (g_runS (As := [.int x]) (rest := []) ⟨hx, hb, hml, hown, hts⟩ (c_MB_isMock l x) st_MB_isMock k_110 ⟨rfl, rfl, by decide, by decide⟩ (gT_pre _) rfl hl.1 rfl (Nat.le_of_ble_eq_true rfl) d_MB_strict_1 ⟨by decide, by decide⟩) (fun r1 hr1 => ?_)
  subst hr1
  refine lv_if_ne (tgt := 9) hx hb d_MB_strict_4 (by decide) (fun c2 => ?_) (fun c2 => ?_)
  · skip
    rw [bI_0] at c2
    obtain ⟨mk, hmk, rfl⟩ := inR_of (M := 3) (n := 3) (by decide) (by simpa using c2 : inR x 0 3 = true)
    have hcl := nI_clamp (show mk < 2 ^ 31 by omega)
    refine lv_aload_n hx hb d_MB_strict_9 rfl (lv_at hl 0 rfl) ?_
    refine g_get hx hb hts i_MB hown hK.1 hP fB rfl 2 (by decide) (hts _ k_70) (fun _ h9 => h9) rfl d_MB_strict_10 ?_
    refine lv_iload_n hx hb d_MB_strict_13 rfl (lv_at hl 1 rfl) ?_
    refine g_zald (v := bI (kSt σ mk)) hx hb hK.1 hP 1 fS rfl (vp_in_nI (show mk < 4 by omega) (by omega)) (by rw [hcl]; exact hfs mk (by omega)) d_MB_strict_14 ?_
    refine lv_istore_n (lv' := [(3, .int (bI (kSt σ mk))), (0, .ref h), (1, .int (nI mk)), (2, .int (bI on))]) hx hb d_MB_strict_15 rfl hl (by decide) rfl (fun ls hl => ?_)
    refine lv_aload_n hx hb d_MB_strict_16 rfl (lv_at hl 1 rfl) ?_
    refine g_get hx hb hts i_MB hown hK.1 hP fB rfl 2 (by decide) (hts _ k_70) (fun _ h9 => h9) rfl d_MB_strict_17 ?_
    refine lv_iload_n hx hb d_MB_strict_20 rfl (lv_at hl 2 rfl) ?_
    refine lv_iload_n hx hb d_MB_strict_21 rfl (lv_at hl 3 rfl) ?_
    refine g_zast (k := mk) hx hb hK.1 hP hS 1 fS rfl (vp_in_nI (show mk < 4 by omega) (by omega)) hcl (bI_nar _) d_MB_strict_22 (fun H locs hP hS => ?_)
    obtain ⟨A3, eA3⟩ : ∃ z, z = gU A (4, 0) (sa, .inl (cZ, 4, .inl (upd fs (mk) (bI on)))) := ⟨_, rfl⟩
    replace hP : gP D classes b A3 H := by rw [eA3]; exact hP
    have f4 : A3 (0, 0) = some (h, .inr (0, [.ref ra, .ref ia, .ref sa, .ref ua, .int (nI (kMk σ) - 1)])) := (by rw [eA3]; exact gU_n (gne (show (0 : Nat) ≠ 4 by decide)) : A3 (0, 0) = A (0, 0)).trans fB
    have f5 : A3 (1, 0) = some (ra, .inr (4, [.int moR, .ref qR, .int (nI (kRs σ).length)])) := (by rw [eA3]; exact gU_n (gne (show (1 : Nat) ≠ 4 by decide)) : A3 (1, 0) = A (1, 0)).trans fLR
    have f6 : A3 (1, 1) = some (ia, .inr (4, [.int moI, .ref qI, .int (nI (kIs σ).length)])) := (by rw [eA3]; exact gU_n (gne (show (1 : Nat) ≠ 4 by decide)) : A3 (1, 1) = A (1, 1)).trans fLI
    have f7 : A3 (5, (kRs σ).length) = some (ua, .inr (1, [.ref hk, .ref hv, .int (nI (kBu σ).length)])) := (by rw [eA3]; exact gU_n (gne (show (5 : Nat) ≠ 4 by decide)) : A3 (5, (kRs σ).length) = A (5, (kRs σ).length)).trans fM
    have f8 : A3 (6, (kRs σ).length) = some (hk, .inl (cI, 3, .inl fk)) := (by rw [eA3]; exact gU_n (gne (show (6 : Nat) ≠ 4 by decide)) : A3 (6, (kRs σ).length) = A (6, (kRs σ).length)).trans fK
    have f9 : A3 (7, (kRs σ).length) = some (hv, .inl (cI, 3, .inl fv)) := (by rw [eA3]; exact gU_n (gne (show (7 : Nat) ≠ 4 by decide)) : A3 (7, (kRs σ).length) = A (7, (kRs σ).length)).trans fV
    have f10 : A3 (4, 0) = some (sa, .inl (cZ, 4, .inl (upd fs (mk) (bI on)))) := by rw [eA3]; exact gU_s
    have gA3 : gF [4] 0 A A3 := by rw [eA3]; exact gF_U gF.rf (by decide)
    refine lv_iload_n hx hb d_MB_strict_23 rfl (lv_at hl 0 rfl) ?_
    refine g_ri (g_runS (As := [.int (bI (kSt σ mk))]) (rest := []) ⟨hx, hb, hml, hown, hts⟩ (c_MB_asB l (kSt σ mk)) st_MB_asNumber k_250 ⟨rfl, rfl, by decide, by decide⟩ (gT_pre _) rfl hl.1 rfl (Nat.le_of_ble_eq_true rfl) d_MB_strict_24 ⟨by decide, by decide⟩) (fun r11 hr11 => ?_)
    subst hr11
    have e9 : sStrict σ (nI mk) on = ((kRs σ, kIs σ, va_up (kSt σ) mk on, kBu σ, kMk σ), bI (kSt σ mk)) := by unfold sStrict; rw [if_pos (by simp_all), hcl]
    refine W.widen (k := 0) (n := 0) (by decide) (by decide) ?_
    exact W.iret hx hb hr (fun t ht _ => ⟨⟨_, A3, rfl, ⟨by rw [e9], by rw [e9]; exact (hQ.st gA3 f10).k, gA3.out rfl⟩, show gP D classes b A3 t.heap by rw [ht]; exact hP⟩, hS.F ht⟩) hS.2.2 d_MB_strict_27
  · skip
    rw [bI_0] at c2
    refine lv_iconst (v := (-1)) hx hb d_MB_strict_7 (by decide) ?_
    have e9 : sStrict σ x on = (σ, -1) := by simp_all [sStrict]
    refine W.widen (k := 0) (n := 0) (by decide) (by decide) ?_
    exact W.iret hx hb hr (fun t ht _ => ⟨⟨_, A, rfl, ⟨by rw [e9], by rw [e9]; exact hB, gO.rf⟩, show gP D classes b A t.heap by rw [ht]; exact hP⟩, hS.F ht⟩) hS.2.2 d_MB_strict_8
end
section
set_option maxHeartbeats 4000000 in
set_option maxRecDepth 100000 in
theorem c_MB_then (l : Launch) {D : va_G} {cI cZ cO cL : ClassId} {b e0 : Nat} {A : gW} {h : Nat} {σ : Bk} (hB : rBk cI cZ cO e0 A h σ) (hw : wf σ) (x k v : Int32) : Met l y_MB_then (Cond.code y_MB_then b_MB_then 5 (some .int) :: TT) ({ frames := 3, cells := 0, slots := 0, locals := 64 }) (va_Pc [.ref h, .int x, .int k, .int v] (gI D [(cI, .int), (cZ, .boolean), (cO, .object "java/lang/Object"), (cL, .long)] b e0 A)) (va_Qi (fun (z : Int32) (A2 : gW) => z = (sThen σ x k v).2 ∧ rBk cI cZ cO e0 A2 h (sThen σ x k v).1 ∧ gO A A2) (fun A2 t => gP D classes b A2 t.heap) (fun q => b ≤ q)) 0 0 (fun q => b ≤ q) := by
  refine Met.ofG (own := R_MB) (by decide +kernel) rfl (Nat.le_of_ble_eq_true rfl) ?_
  intro p e s m below meth c ls hx hb hr hlk hml hown hnm hts hI hl
  have hl : lv_has ls 5 [(0, .ref h), (1, .int x), (2, .int k), (3, .int v)] := hl
  have hS : gS b s.heap s.heap [] := va_S.rf
  obtain ⟨hP, hK⟩ := hI
  obtain ⟨ra, ia, sa, ua, aR, aI, aM, fs, fB, hLR, hLI, fS, hfs, hBu, hRs, hIs⟩ := id hB
  obtain ⟨w1, w2, w3, w4, w5, w6, w7, w8⟩ := id hw
  obtain ⟨moR, qR, capR, efR, fLR, -⟩ := id hLR
  obtain ⟨moI, qI, capI, efI, fLI, -⟩ := id hLI
  obtain ⟨hk, hv, fk, fv, fM, fK, fV, hn3, hms⟩ := id hBu
  have hQ : rBq cI cZ cO e0 A h ra ia sa ua aR aI aM fs σ := ⟨fB, hLR, hLI, fS, hfs, hBu, hRs, hIs⟩
  refine lv_aload_n hx hb d_MB_then_0 rfl (lv_at hl 0 rfl) ?_
  refine lv_iload_n hx hb d_MB_then_1 rfl (lv_at hl 1 rfl) ?_
  refine g_ri (g_runV (As := [.int x]) (rest := []) ⟨hx, hb, hml, hown, hts⟩ (c_MB_isRule l hB hw x) st_MB_isRule k_218 ⟨rfl, rfl, by decide, by decide⟩ rfl (gI.preV hK hS hP fB rfl _) rfl hl.1 rfl (Nat.le_of_ble_eq_true rfl) d_MB_then_2 ⟨by decide, by decide⟩) (fun r1 hr1 => ?_)
  subst hr1
  refine lv_if_ne (tgt := 10) hx hb d_MB_then_5 (by decide) (fun c2 => ?_) (fun c2 => ?_)
  · skip
    rw [bI_0] at c2
    obtain ⟨j, hj, rfl⟩ := inN (by omega) (by simpa using c2 : inR x 0 (nI (kRs σ).length - 1) = true)
    have hcl := nI_clamp (show j < 2 ^ 31 by omega)
    refine lv_aload_n hx hb d_MB_then_10 rfl (lv_at hl 0 rfl) ?_
    refine g_get hx hb hts i_MB hown hK.1 hP fB rfl 0 (by decide) (hts _ k_68) (fun _ h9 => h9) rfl d_MB_then_11 ?_
    refine lv_iload_n hx hb d_MB_then_14 rfl (lv_at hl 1 rfl) ?_
    refine g_rr (g_runV (As := [.int (nI j)]) (rest := []) ⟨hx, hb, hml, hown, hts⟩ (c_AL_get l hLR (i := j) (by omega)) st_AL_get k_222 ⟨rfl, rfl, by decide, by decide⟩ rfl (gI.preV hK hS hP fLR rfl _) rfl hl.1 rfl (Nat.le_of_ble_eq_true rfl) d_MB_then_15 ⟨by decide, by decide⟩) ?_
    obtain ⟨r3, hr3⟩ : ∃ z, z = (kRs σ).getD j u0 := ⟨_, rfl⟩
    have fr3 : rRu cI A j (aR j) (aM j) r3 := by rw [hr3]; exact (hRs j (by omega)).2
    have mr3 : rMa cI A j (aM j) (uMs r3) := by rw [hr3]; exact (hRs j (by omega)).1
    have br3 : wfR r3 := by rw [hr3]; exact w3 j (by omega)
    obtain ⟨br31, br32, br33, br34, br35, br36, br37⟩ := br3
    obtain ⟨hk3, hv3, fk3, fv3, fR3, fK3, fV3, hn3, hac3⟩ := id fr3
    refine va_castY (C := R_Ru) hx hb hown (hts _ k_124) (hK.2.1 _ (List.mem_of_getElem? (i := 5) rfl)) (va_recv (q0 := 0) hK.1 (hP.one fR3) rfl rfl) d_MB_then_18 ?_
    refine lv_astore (lv' := [(4, .ref ((aR j))), (0, .ref h), (1, .int (nI j)), (2, .int k), (3, .int v)]) hx hb d_MB_then_21 hl (by decide) rfl (fun ls hl => ?_)
    refine lv_aload hx hb d_MB_then_23 (lv_at hl 0 rfl) ?_
    refine g_get hx hb hts i_Ru hown hK.1 hP fR3 rfl 7 (by decide) (hts _ k_143) (fun _ h9 => h9) rfl d_MB_then_25 ?_
    refine lv_if_eq (tgt := 41) hx hb d_MB_then_28 (by decide) (fun c4 => ?_) (fun c4 => ?_)
    · skip
      rw [bI_0] at c4
      refine lv_iconst (v := (-1)) hx hb d_MB_then_41 (by decide) ?_
      have e9 : sThen σ (nI j) k v = (σ, -1) := by unfold sThen; rw [if_pos (inN_t (by omega) hj), hcl, ← hr3, if_neg (by simp_all)]
      refine W.widen (k := 0) (n := 0) (by decide) (by decide) ?_
      exact W.iret hx hb hr (fun t ht _ => ⟨⟨_, A, rfl, ⟨by rw [e9], by rw [e9]; exact hB, gO.rf⟩, show gP D classes b A t.heap by rw [ht]; exact hP⟩, hS.F ht⟩) hS.2.2 d_MB_then_42
    · skip
      rw [bI_0] at c4
      refine lv_aload hx hb d_MB_then_31 (lv_at hl 0 rfl) ?_
      refine lv_iload_n hx hb d_MB_then_33 rfl (lv_at hl 3 rfl) ?_
      refine lv_iload_n hx hb d_MB_then_34 rfl (lv_at hl 4 rfl) ?_
      refine g_ri (g_runV (As := [.int k, .int v]) (rest := []) ⟨hx, hb, hml, hown, hts⟩ (c_Ru_allows l fr3 (by omega) k v) st_Ru_allows k_236 ⟨rfl, rfl, by decide, by decide⟩ rfl (gI.preV hK hS hP fR3 rfl _) rfl hl.1 rfl (Nat.le_of_ble_eq_true rfl) d_MB_then_35 ⟨by decide, by decide⟩) (fun r5 hr5 => ?_)
      subst hr5
      refine lv_if_ne (tgt := 43) hx hb d_MB_then_38 (by decide) (fun c6 => ?_) (fun c6 => ?_)
      · skip
        rw [bI_0] at c6
        refine lv_aload hx hb d_MB_then_43 (lv_at hl 0 rfl) ?_
        refine g_get hx hb hts i_Ru hown hK.1 hP fR3 rfl 5 (by decide) (hts _ k_139) (fun _ h9 => h9) rfl d_MB_then_45 ?_
        refine lv_iconst (v := 4) hx hb d_MB_then_48 (by decide) ?_
        refine lv_icmp_lt (tgt := 55) hx hb d_MB_then_49 (by decide) (fun c7 => ?_) (fun c7 => ?_)
        · skip
          replace c7 : (uAc r3).length < 4 := (nI_ltI (a := (uAc r3).length) (b := 4) (by omega) (by decide)).mp c7
          refine lv_aload hx hb d_MB_then_55 (lv_at hl 0 rfl) ?_
          refine lv_iload_n hx hb d_MB_then_57 rfl (lv_at hl 3 rfl) ?_
          refine lv_iload_n hx hb d_MB_then_58 rfl (lv_at hl 4 rfl) ?_
          refine g_cv (B := fun A2 H => gP D classes b A2 H) (g_runV (As := [.int k, .int v]) (rest := []) ⟨hx, hb, hml, hown, hts⟩ (c_Ru_addAction l fr3 (by omega) k v) st_Ru_addAction k_242 ⟨rfl, rfl, by decide, by decide⟩ rfl (gI.preV hK hS hP fR3 rfl _) rfl hl.1 rfl (Nat.le_of_ble_eq_true rfl) d_MB_then_59 ⟨by decide, by decide⟩) hS (fun A8 H locs hp9 hP hS => ?_)
          replace hP : gP D classes b A8 H := hP
          refine W.widen (k := 0) (n := 0) (by decide) (by decide) ?_
          obtain ⟨hr2, gr2⟩ := hp9
          obtain ⟨hk10, hv10, fk10, fv10, fR10, fK10, fV10, hn10, hac10⟩ := id hr2
          refine lv_aload hx hb d_MB_then_62 (lv_at hl 0 rfl) ?_
          refine g_get hx hb hts i_Ru hown hK.1 hP fR10 rfl 5 (by decide) (hts _ k_139) (fun _ h9 => h9) rfl d_MB_then_64 ?_
          have e9 : sThen σ (nI j) k v = (((kRs σ).set j (uAdd r3 k v), kIs σ, kSt σ, kBu σ, kMk σ), nI (uAc r3 ++ [(k, v)]).length) := by unfold sThen; rw [if_pos (inN_t (by omega) hj), hcl, ← hr3, if_pos (by simp_all), if_neg (by omega)]
          refine W.widen (k := 0) (n := 0) (by decide) (by decide) ?_
          exact W.iret hx hb hr (fun t ht _ => ⟨⟨_, A8, rfl, ⟨by rw [e9], by rw [e9]; exact (hQ.ru (r := uAdd r3 k v) hj gr2 hr2 (by rw [hr3]; rfl)).k, gr2.out rfl⟩, show gP D classes b A8 t.heap by rw [ht]; exact hP⟩, hS.F ht⟩) hS.2.2 d_MB_then_67
        · skip
          replace c7 : ¬ (uAc r3).length < 4 := fun q => c7 ((nI_ltI (a := (uAc r3).length) (b := 4) (by omega) (by decide)).mpr q)
          refine lv_bipush (v := (-2)) hx hb d_MB_then_52 (by decide) ?_
          have e9 : sThen σ (nI j) k v = (σ, -2) := by unfold sThen; rw [if_pos (inN_t (by omega) hj), hcl, ← hr3, if_pos (by simp_all), if_pos (by omega)]
          refine W.widen (k := 0) (n := 0) (by decide) (by decide) ?_
          exact W.iret hx hb hr (fun t ht _ => ⟨⟨_, A, rfl, ⟨by rw [e9], by rw [e9]; exact hB, gO.rf⟩, show gP D classes b A t.heap by rw [ht]; exact hP⟩, hS.F ht⟩) hS.2.2 d_MB_then_54
      · skip
        rw [bI_0] at c6
        refine lv_iconst (v := (-1)) hx hb d_MB_then_41 (by decide) ?_
        have e9 : sThen σ (nI j) k v = (σ, -1) := by unfold sThen; rw [if_pos (inN_t (by omega) hj), hcl, ← hr3, if_neg (by simp_all)]
        refine W.widen (k := 0) (n := 0) (by decide) (by decide) ?_
        exact W.iret hx hb hr (fun t ht _ => ⟨⟨_, A, rfl, ⟨by rw [e9], by rw [e9]; exact hB, gO.rf⟩, show gP D classes b A t.heap by rw [ht]; exact hP⟩, hS.F ht⟩) hS.2.2 d_MB_then_42
  · skip
    rw [bI_0] at c2
    refine lv_iconst (v := (-1)) hx hb d_MB_then_8 (by decide) ?_
    have e9 : sThen σ x k v = (σ, -1) := by unfold sThen; rw [if_neg (by simp_all)]
    refine W.widen (k := 0) (n := 0) (by decide) (by decide) ?_
    exact W.iret hx hb hr (fun t ht _ => ⟨⟨_, A, rfl, ⟨by rw [e9], by rw [e9]; exact hB, gO.rf⟩, show gP D classes b A t.heap by rw [ht]; exact hP⟩, hS.F ht⟩) hS.2.2 d_MB_then_9
set_option maxHeartbeats 4000000 in
set_option maxRecDepth 100000 in
theorem c_MB_rule (l : Launch) {D : va_G} {cI cZ cO cL : ClassId} {b e0 : Nat} {A : gW} {h : Nat} {σ : Bk} (hB : rBk cI cZ cO e0 A h σ) (hw : wf σ) (x y : Int32) : Met l y_MB_rule (Cond.code y_MB_rule b_MB_rule 3 (some .int) :: TT) ({ frames := 7, cells := 7, slots := 265, locals := 171 }) (va_Pc [.ref h, .int x, .int y] (gI D [(cI, .int), (cZ, .boolean), (cO, .object "java/lang/Object"), (cL, .long)] b e0 A)) (va_Qi (fun (z : Int32) (A2 : gW) => z = (sRule σ x y).2 ∧ rBk cI cZ cO e0 A2 h (sRule σ x y).1 ∧ gO A A2) (fun A2 t => gP D classes b A2 t.heap) (fun q => b ≤ q)) 7 265 (fun q => b ≤ q) := by
  refine Met.ofG (own := R_MB) (by decide +kernel) rfl (Nat.le_of_ble_eq_true rfl) ?_
  intro p e s m below meth c ls hx hb hr hlk hml hown hnm hts hI hl
  have hl : lv_has ls 3 [(0, .ref h), (1, .int x), (2, .int y)] := hl
  have hS : gS b s.heap s.heap [] := va_S.rf
  obtain ⟨hP, hK⟩ := hI
  obtain ⟨ra, ia, sa, ua, aR, aI, aM, fs, fB, hLR, hLI, fS, hfs, hBu, hRs, hIs⟩ := id hB
  obtain ⟨w1, w2, w3, w4, w5, w6, w7, w8⟩ := id hw
  obtain ⟨moR, qR, capR, efR, fLR, -⟩ := id hLR
  obtain ⟨moI, qI, capI, efI, fLI, -⟩ := id hLI
  obtain ⟨hk, hv, fk, fv, fM, fK, fV, hn3, hms⟩ := id hBu
  have hQ : rBq cI cZ cO e0 A h ra ia sa ua aR aI aM fs σ := ⟨fB, hLR, hLI, fS, hfs, hBu, hRs, hIs⟩
  refine lv_iload_n hx hb d_MB_rule_0 rfl (lv_at hl 1 rfl) ?_
  refine lv_iload_n hx hb d_MB_rule_1 rfl (lv_at hl 2 rfl) ?_
  refine g_ri (g_runS (As := [.int x, .int y]) (rest := []) ⟨hx, hb, hml, hown, hts⟩ (c_MB_isMethod l x y) st_MB_isMethod k_107 ⟨rfl, rfl, by decide, by decide⟩ (gT_pre _) rfl hl.1 rfl (Nat.le_of_ble_eq_true rfl) d_MB_rule_2 ⟨by decide, by decide⟩) (fun r1 hr1 => ?_)
  subst hr1
  refine lv_if_eq (tgt := 19) hx hb d_MB_rule_5 (by decide) (fun c2 => ?_) (fun c2 => ?_)
  · skip
    rw [bI_0] at c2
    refine lv_iconst (v := (-1)) hx hb d_MB_rule_19 (by decide) ?_
    have e9 : sRule σ x y = (σ, -1) := by unfold sRule; rw [if_neg (by simp_all)]
    refine W.widen (k := 7) (n := 265) (by decide) (by decide) ?_
    exact W.iret hx hb hr (fun t ht _ => ⟨⟨_, A, rfl, ⟨by rw [e9], by rw [e9]; exact hB, gO.rf⟩, show gP D classes b A t.heap by rw [ht]; exact hP⟩, hS.F ht⟩) hS.2.2 d_MB_rule_20
  · skip
    rw [bI_0] at c2
    have hin : inR x 0 3 = true ∧ inR y 0 7 = true := by simpa using c2
    obtain ⟨mk, hmk, rfl⟩ := inR_of (M := 3) (n := 3) (by decide) hin.1
    obtain ⟨mt, hmt, rfl⟩ := inR_of (M := 7) (n := 7) (by decide) hin.2
    have hc1 := nI_clamp (show mk < 2 ^ 31 by omega)
    have hc2 := nI_clamp (show mt < 2 ^ 31 by omega)
    refine lv_aload_n hx hb d_MB_rule_8 rfl (lv_at hl 0 rfl) ?_
    refine g_get hx hb hts i_MB hown hK.1 hP fB rfl 3 (by decide) (hts _ k_71) (fun _ h9 => h9) rfl d_MB_rule_9 ?_
    refine lv_iload_n hx hb d_MB_rule_12 rfl (lv_at hl 2 rfl) ?_
    refine g_ri (g_runV (As := [.int (nI mt)]) (rest := []) ⟨hx, hb, hml, hown, hts⟩ (c_Ma_suits l hBu (by omega)) st_Ma_suits k_113 ⟨rfl, rfl, by decide, by decide⟩ rfl (gI.preV hK hS hP fM rfl _) rfl hl.1 rfl (Nat.le_of_ble_eq_true rfl) d_MB_rule_13 ⟨by decide, by decide⟩) (fun r3 hr3 => ?_)
    subst hr3
    refine lv_if_ne (tgt := 21) hx hb d_MB_rule_16 (by decide) (fun c4 => ?_) (fun c4 => ?_)
    · skip
      rw [bI_0] at c4
      refine lv_aload_n hx hb d_MB_rule_21 rfl (lv_at hl 0 rfl) ?_
      refine g_get hx hb hts i_MB hown hK.1 hP fB rfl 0 (by decide) (hts _ k_68) (fun _ h9 => h9) rfl d_MB_rule_22 ?_
      refine g_ri (g_runV (As := []) (rest := []) ⟨hx, hb, hml, hown, hts⟩ (c_AL_size l hLR) st_AL_size k_120 ⟨rfl, rfl, by decide, by decide⟩ rfl (gI.preV hK hS hP fLR rfl _) rfl hl.1 rfl (Nat.le_of_ble_eq_true rfl) d_MB_rule_25 ⟨by decide, by decide⟩) (fun r5 hr5 => ?_)
      subst hr5
      refine lv_bipush (v := 24) hx hb d_MB_rule_28 (by decide) ?_
      refine lv_icmp_lt (tgt := 36) hx hb d_MB_rule_30 (by decide) (fun c6 => ?_) (fun c6 => ?_)
      · skip
        replace c6 : (kRs σ).length < 24 := (nI_ltI (a := (kRs σ).length) (b := 24) (by omega) (by decide)).mp c6
        refine lv_aload_n hx hb d_MB_rule_36 rfl (lv_at hl 0 rfl) ?_
        refine g_get hx hb hts i_MB hown hK.1 hP fB rfl 0 (by decide) (hts _ k_68) (fun _ h9 => h9) rfl d_MB_rule_37 ?_
        refine g_new (ci := 2) (fs := [.int 0, .int 0, .null, .null, .null, .int 0, .int 0, .int 0]) hx hb hts i_Ru t_Ru t_Ru_ok hown (hts _ k_124) (hts _ k_125) (hts _ k_7) hK.1 hP hS (8, (kRs σ).length) rfl (fun j hj => by rcases (show j = 0 ∨ j = 1 ∨ j = 2 ∨ j = 3 ∨ j = 4 ∨ j = 5 ∨ j = 6 ∨ j = 7 by omega) with rfl | rfl | rfl | rfl | rfl | rfl | rfl | rfl <;> rfl) (by decide) (by decide) d_MB_rule_40 (fun q7 H hP hS => ?_)
        refine W.widen (k := 1) (n := 8) (by decide) (by decide) ?_
        obtain ⟨A8, eA8⟩ : ∃ z, z = gU A (8, (kRs σ).length) (q7, .inr (2, [.int 0, .int 0, .null, .null, .null, .int 0, .int 0, .int 0])) := ⟨_, rfl⟩
        replace hP : gP D classes b A8 H := by rw [eA8]; exact hP
        have f9 : A8 (0, 0) = some (h, .inr (0, [.ref ra, .ref ia, .ref sa, .ref ua, .int (nI (kMk σ) - 1)])) := (by rw [eA8]; exact gU_n (gne (show (0 : Nat) ≠ 8 by decide)) : A8 (0, 0) = A (0, 0)).trans fB
        have f10 : A8 (1, 0) = some (ra, .inr (4, [.int moR, .ref qR, .int (nI (kRs σ).length)])) := (by rw [eA8]; exact gU_n (gne (show (1 : Nat) ≠ 8 by decide)) : A8 (1, 0) = A (1, 0)).trans fLR
        have f11 : A8 (1, 1) = some (ia, .inr (4, [.int moI, .ref qI, .int (nI (kIs σ).length)])) := (by rw [eA8]; exact gU_n (gne (show (1 : Nat) ≠ 8 by decide)) : A8 (1, 1) = A (1, 1)).trans fLI
        have f12 : A8 (4, 0) = some (sa, .inl (cZ, 4, .inl fs)) := (by rw [eA8]; exact gU_n (gne (show (4 : Nat) ≠ 8 by decide)) : A8 (4, 0) = A (4, 0)).trans fS
        have f13 : A8 (5, (kRs σ).length) = some (ua, .inr (1, [.ref hk, .ref hv, .int (nI (kBu σ).length)])) := (by rw [eA8]; exact gU_n (gne (show (5 : Nat) ≠ 8 by decide)) : A8 (5, (kRs σ).length) = A (5, (kRs σ).length)).trans fM
        have f14 : A8 (6, (kRs σ).length) = some (hk, .inl (cI, 3, .inl fk)) := (by rw [eA8]; exact gU_n (gne (show (6 : Nat) ≠ 8 by decide)) : A8 (6, (kRs σ).length) = A (6, (kRs σ).length)).trans fK
        have f15 : A8 (7, (kRs σ).length) = some (hv, .inl (cI, 3, .inl fv)) := (by rw [eA8]; exact gU_n (gne (show (7 : Nat) ≠ 8 by decide)) : A8 (7, (kRs σ).length) = A (7, (kRs σ).length)).trans fV
        have f16 : A8 (8, (kRs σ).length) = some (q7, .inr (2, [.int 0, .int 0, .null, .null, .null, .int 0, .int 0, .int 0])) := by rw [eA8]; exact gU_s
        have gA8 : gF [8, 9, 10] ((kRs σ).length) A A8 := by rw [eA8]; exact gF_U gF.rf (by decide)
        refine lv_dup hx hb d_MB_rule_43 rfl ?_
        refine lv_iload_n hx hb d_MB_rule_44 rfl (lv_at hl 1 rfl) ?_
        refine lv_iload_n hx hb d_MB_rule_45 rfl (lv_at hl 2 rfl) ?_
        refine lv_aload_n hx hb d_MB_rule_46 rfl (lv_at hl 0 rfl) ?_
        refine g_get hx hb hts i_MB hown hK.1 hP f9 rfl 3 (by decide) (hts _ k_71) (fun _ h9 => h9) rfl d_MB_rule_47 ?_
        refine g_cv (B := fun A2 H => gP D classes b A2 H) (g_runI (b := q7) (As := [.int (nI mk), .int (nI mt), .ref ua]) (rest := [.ref q7, .ref ra]) ⟨hx, hb, hml, hown, hts⟩ (c_Ru_init l f16 mk mt ua (kBu σ)) st_Ru_init k_126 ⟨rfl, rfl, by decide, by decide⟩ (gI.pre hK hS hP _) rfl hl.1 rfl (Nat.le_of_ble_eq_true rfl) d_MB_rule_50 ⟨by decide, by decide⟩) hS (fun A17 H locs hp18 hP hS => ?_)
        replace hP : gP D classes b A17 H := hP
        refine W.widen (k := 3) (n := 16) (by decide) (by decide) ?_
        obtain ⟨hr2, gr2⟩ := hp18
        have gr3 : gF [8, 9, 10] (kRs σ).length A A17 := gA8.trans gr2
        have f19 : A17 (0, 0) = some (h, .inr (0, [.ref ra, .ref ia, .ref sa, .ref ua, .int (nI (kMk σ) - 1)])) := (gr2.at (n := 0) (j := 0) (by decide)).trans f9
        have f20 : A17 (1, 0) = some (ra, .inr (4, [.int moR, .ref qR, .int (nI (kRs σ).length)])) := (gr2.at (n := 1) (j := 0) (by decide)).trans f10
        have f21 : A17 (1, 1) = some (ia, .inr (4, [.int moI, .ref qI, .int (nI (kIs σ).length)])) := (gr2.at (n := 1) (j := 1) (by decide)).trans f11
        have f22 : A17 (4, 0) = some (sa, .inl (cZ, 4, .inl fs)) := (gr2.at (n := 4) (j := 0) (by decide)).trans f12
        have f23 : A17 (5, (kRs σ).length) = some (ua, .inr (1, [.ref hk, .ref hv, .int (nI (kBu σ).length)])) := (gr2.at (n := 5) (j := (kRs σ).length) (by decide)).trans f13
        have f24 : A17 (6, (kRs σ).length) = some (hk, .inl (cI, 3, .inl fk)) := (gr2.at (n := 6) (j := (kRs σ).length) (by decide)).trans f14
        have f25 : A17 (7, (kRs σ).length) = some (hv, .inl (cI, 3, .inl fv)) := (gr2.at (n := 7) (j := (kRs σ).length) (by decide)).trans f15
        obtain ⟨_, _, _, _, fRn, -⟩ := id hr2
        have hLR2 : rAL cO e0 A17 0 8 2 ra (kRs σ).length aR := hLR.keep' (gr3.at rfl) (gr3.at rfl) (gr3.at rfl) (fun i hi => gr3.at2 (Nat.ne_of_lt hi))
        refine g_ci (B := fun A2 H => gP D classes b A2 H) (g_runV (As := [.ref q7]) (rest := []) ⟨hx, hb, hml, hown, hts⟩ (c_AL_add l hLR2 (by omega) (by decide) (Or.inl rfl) fRn) st_AL_add k_161 ⟨rfl, rfl, by decide, by decide⟩ rfl (gI.preV hK hS hP f20 rfl _) rfl hl.1 rfl (Nat.le_of_ble_eq_true rfl) d_MB_rule_53 ⟨by decide, by decide⟩) hS (fun r28 A26 H locs hp27 hP hS => ?_)
        replace hP : gP D classes b A26 H := hP
        refine W.widen (k := 4) (n := 256) (by decide) (by decide) ?_
        obtain ⟨hL3, gL3⟩ := hp27
        have f29 : A26 (0, 0) = some (h, .inr (0, [.ref ra, .ref ia, .ref sa, .ref ua, .int (nI (kMk σ) - 1)])) := (gL3.at (n := 0) (j := 0) (by decide)).trans f19
        have f30 : A26 (1, 1) = some (ia, .inr (4, [.int moI, .ref qI, .int (nI (kIs σ).length)])) := (gL3.at2 (n := 1) (j := 1) (by omega)).trans f21
        have f31 : A26 (4, 0) = some (sa, .inl (cZ, 4, .inl fs)) := (gL3.at (n := 4) (j := 0) (by decide)).trans f22
        have f32 : A26 (5, (kRs σ).length) = some (ua, .inr (1, [.ref hk, .ref hv, .int (nI (kBu σ).length)])) := (gL3.at (n := 5) (j := (kRs σ).length) (by decide)).trans f23
        have f33 : A26 (6, (kRs σ).length) = some (hk, .inl (cI, 3, .inl fk)) := (gL3.at (n := 6) (j := (kRs σ).length) (by decide)).trans f24
        have f34 : A26 (7, (kRs σ).length) = some (hv, .inl (cI, 3, .inl fv)) := (gL3.at (n := 7) (j := (kRs σ).length) (by decide)).trans f25
        obtain ⟨mo3, q3, cap3, ef3, fL3, -⟩ := id hL3
        refine lv_pop hx hb d_MB_rule_56 rfl ?_
        refine lv_aload_n hx hb d_MB_rule_57 rfl (lv_at hl 0 rfl) ?_
        refine g_new (ci := 1) (fs := [.null, .null, .int 0]) hx hb hts i_Ma t_Ma t_Ma_ok hown (hts _ k_49) (hts _ k_50) (hts _ k_5) hK.1 hP hS (5, (kRs σ).length + 1) rfl (fun j hj => by rcases (show j = 0 ∨ j = 1 ∨ j = 2 by omega) with rfl | rfl | rfl <;> rfl) (by decide) (by decide) d_MB_rule_58 (fun q35 H hP hS => ?_)
        refine W.widen (k := 5) (n := 259) (by decide) (by decide) ?_
        obtain ⟨A36, eA36⟩ : ∃ z, z = gU A26 (5, (kRs σ).length + 1) (q35, .inr (1, [.null, .null, .int 0])) := ⟨_, rfl⟩
        replace hP : gP D classes b A36 H := by rw [eA36]; exact hP
        have f37 : A36 (0, 0) = some (h, .inr (0, [.ref ra, .ref ia, .ref sa, .ref ua, .int (nI (kMk σ) - 1)])) := (by rw [eA36]; exact gU_n (gne (show (0 : Nat) ≠ 5 by decide)) : A36 (0, 0) = A26 (0, 0)).trans f29
        have f38 : A36 (1, 1) = some (ia, .inr (4, [.int moI, .ref qI, .int (nI (kIs σ).length)])) := (by rw [eA36]; exact gU_n (gne (show (1 : Nat) ≠ 5 by decide)) : A36 (1, 1) = A26 (1, 1)).trans f30
        have f39 : A36 (4, 0) = some (sa, .inl (cZ, 4, .inl fs)) := (by rw [eA36]; exact gU_n (gne (show (4 : Nat) ≠ 5 by decide)) : A36 (4, 0) = A26 (4, 0)).trans f31
        have f40 : A36 (5, (kRs σ).length) = some (ua, .inr (1, [.ref hk, .ref hv, .int (nI (kBu σ).length)])) := (by rw [eA36]; exact gU_n (gne2 (show (kRs σ).length ≠ (kRs σ).length + 1 by omega)) : A36 (5, (kRs σ).length) = A26 (5, (kRs σ).length)).trans f32
        have f41 : A36 (6, (kRs σ).length) = some (hk, .inl (cI, 3, .inl fk)) := (by rw [eA36]; exact gU_n (gne (show (6 : Nat) ≠ 5 by decide)) : A36 (6, (kRs σ).length) = A26 (6, (kRs σ).length)).trans f33
        have f42 : A36 (7, (kRs σ).length) = some (hv, .inl (cI, 3, .inl fv)) := (by rw [eA36]; exact gU_n (gne (show (7 : Nat) ≠ 5 by decide)) : A36 (7, (kRs σ).length) = A26 (7, (kRs σ).length)).trans f34
        have f43 : A36 (1, 0) = some (ra, .inr (4, [.int mo3, .ref q3, .int (nI ((kRs σ).length + 1))])) := (by rw [eA36]; exact gU_n (gne (show (1 : Nat) ≠ 5 by decide)) : A36 (1, 0) = A26 (1, 0)).trans fL3
        have f44 : A36 (5, (kRs σ).length + 1) = some (q35, .inr (1, [.null, .null, .int 0])) := by rw [eA36]; exact gU_s
        have gA36 : gF [5, 6, 7] ((kRs σ).length + 1) A26 A36 := by rw [eA36]; exact gF_U gF.rf (by decide)
        refine lv_dup hx hb d_MB_rule_61 rfl ?_
        refine g_cv (B := fun A2 H => gP D classes b A2 H) (g_runIN (b := q35) (As := []) (rest := [.ref q35, .ref h]) ⟨hx, hb, hml, hown, hts⟩ (c_Ma_init l f44) st_Ma_init (hK.2.1 _ (List.mem_of_getElem? (i := 0) rfl)) ⟨rfl, rfl, by decide, by decide⟩ (gI.pre hK hS hP _) rfl hl.1 rfl (Nat.le_of_ble_eq_true rfl) d_MB_rule_62 ⟨by decide, by decide⟩) hS (fun A45 H locs hp46 hP hS => ?_)
        replace hP : gP D classes b A45 H := hP
        refine W.widen (k := 7) (n := 265) (by decide) (by decide) ?_
        obtain ⟨hm4, gm4⟩ := hp46
        have gm5 : gF [5, 6, 7] ((kRs σ).length + 1) A26 A45 := gA36.trans gm4
        have f47 : A45 (0, 0) = some (h, .inr (0, [.ref ra, .ref ia, .ref sa, .ref ua, .int (nI (kMk σ) - 1)])) := (gm4.at (n := 0) (j := 0) (by decide)).trans f37
        have f48 : A45 (1, 1) = some (ia, .inr (4, [.int moI, .ref qI, .int (nI (kIs σ).length)])) := (gm4.at (n := 1) (j := 1) (by decide)).trans f38
        have f49 : A45 (4, 0) = some (sa, .inl (cZ, 4, .inl fs)) := (gm4.at (n := 4) (j := 0) (by decide)).trans f39
        have f50 : A45 (5, (kRs σ).length) = some (ua, .inr (1, [.ref hk, .ref hv, .int (nI (kBu σ).length)])) := (gm4.at2 (n := 5) (j := (kRs σ).length) (by omega)).trans f40
        have f51 : A45 (6, (kRs σ).length) = some (hk, .inl (cI, 3, .inl fk)) := (gm4.at2 (n := 6) (j := (kRs σ).length) (by omega)).trans f41
        have f52 : A45 (7, (kRs σ).length) = some (hv, .inl (cI, 3, .inl fv)) := (gm4.at2 (n := 7) (j := (kRs σ).length) (by omega)).trans f42
        have f53 : A45 (1, 0) = some (ra, .inr (4, [.int mo3, .ref q3, .int (nI ((kRs σ).length + 1))])) := (gm4.at (n := 1) (j := 0) (by decide)).trans f43
        refine g_put (ty := (.object "MockBook$Matchers")) (v := .ref q35) hx hb hts i_MB t_MB t_MB_ok n_MB hown hK.1 hP hS f47 rfl 3 (by decide) (hts _ k_71) (fun _ h9 => h9) rfl (by decide +kernel) rfl rfl (Nat.le_of_ble_eq_true rfl) d_MB_rule_65 (fun H locs hP hS => ?_)
        obtain ⟨A54, eA54⟩ : ∃ z, z = gU A45 (0, 0) (h, .inr (0, [.ref ra, .ref ia, .ref sa, .ref q35, .int (nI (kMk σ) - 1)])) := ⟨_, rfl⟩
        replace hP : gP D classes b A54 H := by rw [eA54]; exact hP
        have f55 : A54 (1, 1) = some (ia, .inr (4, [.int moI, .ref qI, .int (nI (kIs σ).length)])) := (by rw [eA54]; exact gU_n (gne (show (1 : Nat) ≠ 0 by decide)) : A54 (1, 1) = A45 (1, 1)).trans f48
        have f56 : A54 (4, 0) = some (sa, .inl (cZ, 4, .inl fs)) := (by rw [eA54]; exact gU_n (gne (show (4 : Nat) ≠ 0 by decide)) : A54 (4, 0) = A45 (4, 0)).trans f49
        have f57 : A54 (5, (kRs σ).length) = some (ua, .inr (1, [.ref hk, .ref hv, .int (nI (kBu σ).length)])) := (by rw [eA54]; exact gU_n (gne (show (5 : Nat) ≠ 0 by decide)) : A54 (5, (kRs σ).length) = A45 (5, (kRs σ).length)).trans f50
        have f58 : A54 (6, (kRs σ).length) = some (hk, .inl (cI, 3, .inl fk)) := (by rw [eA54]; exact gU_n (gne (show (6 : Nat) ≠ 0 by decide)) : A54 (6, (kRs σ).length) = A45 (6, (kRs σ).length)).trans f51
        have f59 : A54 (7, (kRs σ).length) = some (hv, .inl (cI, 3, .inl fv)) := (by rw [eA54]; exact gU_n (gne (show (7 : Nat) ≠ 0 by decide)) : A54 (7, (kRs σ).length) = A45 (7, (kRs σ).length)).trans f52
        have f60 : A54 (1, 0) = some (ra, .inr (4, [.int mo3, .ref q3, .int (nI ((kRs σ).length + 1))])) := (by rw [eA54]; exact gU_n (gne (show (1 : Nat) ≠ 0 by decide)) : A54 (1, 0) = A45 (1, 0)).trans f53
        have f61 : A54 (0, 0) = some (h, .inr (0, [.ref ra, .ref ia, .ref sa, .ref q35, .int (nI (kMk σ) - 1)])) := by rw [eA54]; exact gU_s
        have gA54 : gF [0] 0 A45 A54 := by rw [eA54]; exact gF_U gF.rf (by decide)
        have hL6 : rAL cO e0 A54 0 8 2 ra ((kRs σ).length + 1) _ := hL3.keep' ((gA54.at rfl).trans (gm5.at rfl)) ((gA54.at rfl).trans (gm5.at rfl)) ((gA54.at rfl).trans (gm5.at rfl)) (fun i hi => (gA54.at rfl).trans (gm5.at rfl))
        refine lv_aload_n hx hb d_MB_rule_68 rfl (lv_at hl 0 rfl) ?_
        refine g_get hx hb hts i_MB hown hK.1 hP f61 rfl 0 (by decide) (hts _ k_68) (fun _ h9 => h9) rfl d_MB_rule_69 ?_
        refine g_ri (g_runV (As := []) (rest := []) ⟨hx, hb, hml, hown, hts⟩ (c_AL_size l hL6) st_AL_size k_120 ⟨rfl, rfl, by decide, by decide⟩ rfl (gI.preV hK hS hP f60 rfl _) rfl hl.1 rfl (Nat.le_of_ble_eq_true rfl) d_MB_rule_72 ⟨by decide, by decide⟩) (fun r62 hr62 => ?_)
        subst hr62
        refine lv_iconst (v := 1) hx hb d_MB_rule_75 (by decide) ?_
        refine lv_isub hx hb d_MB_rule_76 ?_
        rw [nI_pred]
        have e9 : sRule σ (nI mk) (nI mt) = ((kRs σ ++ [(mk, mt, kBu σ, [], 0, true)], kIs σ, kSt σ, [], kMk σ), nI (kRs σ).length) := by unfold sRule; rw [if_pos (by simp_all), hc1, hc2, if_pos (by simp_all), if_neg (by omega)]
        refine W.widen (k := 7) (n := 265) (by decide) (by decide) ?_
        exact W.iret hx hb hr (fun t ht _ => ⟨⟨_, A54, rfl, ⟨by rw [e9], by rw [e9]; exact (hQ.ar gr3 gL3 gm5 gA54 hL3 hr2 rfl hm4 f61).k, (gr3.out rfl).trans ((gL3.out rfl).trans ((gm5.out rfl).trans (gA54.out rfl)))⟩, show gP D classes b A54 t.heap by rw [ht]; exact hP⟩, hS.F ht⟩) hS.2.2 d_MB_rule_77
      · skip
        replace c6 : ¬ (kRs σ).length < 24 := fun q => c6 ((nI_ltI (a := (kRs σ).length) (b := 24) (by omega) (by decide)).mpr q)
        refine lv_bipush (v := (-2)) hx hb d_MB_rule_33 (by decide) ?_
        have e9 : sRule σ (nI mk) (nI mt) = (σ, -2) := by unfold sRule; rw [if_pos (by simp_all), hc1, hc2, if_pos (by simp_all), if_pos (by omega)]
        refine W.widen (k := 7) (n := 265) (by decide) (by decide) ?_
        exact W.iret hx hb hr (fun t ht _ => ⟨⟨_, A, rfl, ⟨by rw [e9], by rw [e9]; exact hB, gO.rf⟩, show gP D classes b A t.heap by rw [ht]; exact hP⟩, hS.F ht⟩) hS.2.2 d_MB_rule_35
    · skip
      rw [bI_0] at c4
      refine lv_iconst (v := (-1)) hx hb d_MB_rule_19 (by decide) ?_
      have e9 : sRule σ (nI mk) (nI mt) = (σ, -1) := by unfold sRule; rw [if_pos (by simp_all), hc1, hc2, if_neg (by simp_all)]
      refine W.widen (k := 7) (n := 265) (by decide) (by decide) ?_
      exact W.iret hx hb hr (fun t ht _ => ⟨⟨_, A, rfl, ⟨by rw [e9], by rw [e9]; exact hB, gO.rf⟩, show gP D classes b A t.heap by rw [ht]; exact hP⟩, hS.F ht⟩) hS.2.2 d_MB_rule_20
end
section
theorem fst_or (q : Nat → Bool) (k i : Nat) : fst' q k i = -10 ∨ ∃ j, i ≤ j ∧ j < i + k ∧ fst' q k i = nI j := by
  induction k generalizing i with
  | zero => exact Or.inl rfl
  | succ k ih =>
    unfold fst'
    by_cases h : q i = true
    · rw [if_pos h]; exact Or.inr ⟨i, Nat.le_refl i, by omega, rfl⟩
    · rw [if_neg h]
      rcases ih (i + 1) with e | ⟨j, h1, h2, h3⟩
      · exact Or.inl e
      · exact Or.inr ⟨j, by omega, by omega, h3⟩
theorem nI_n10 {j : Nat} (h : j < 2 ^ 31) : ¬ nI j = -10 := fun e => by
  have := congrArg Int32.toInt e
  rw [nI_toInt h, show (-10 : Int32).toInt = -10 by decide] at this
  omega
set_option maxHeartbeats 4000000 in
set_option maxRecDepth 100000 in
theorem c_MB_isSought2 (l : Launch) {D : va_G} {cI cZ cO cL : ClassId} {b e0 : Nat} {A : gW} {h ra ia sa ua nb : Nat} {mv : Int32} {bu : List Pr} (fB : A (0, 0) = some (h, .inr (0, [.ref ra, .ref ia, .ref sa, .ref ua, .int mv]))) (hBu : rMa cI A nb ua bu) {j h2 : Nat} {t : It} (hi : rIn A j h2 t) (b3 : iMk t < 4) (b4 : iMt t < 8) {mk mt : Nat} (b1 : mk < 4) (b2 : mt < 8) : Met l y_MB_isSought (Cond.code y_MB_isSought b_MB_isSought 4 (some .boolean) :: TT) ({ frames := 3, cells := 0, slots := 0, locals := 66 }) (va_Pc [.ref h, .ref h2, .int (nI mk), .int (nI mt)] (gI D [(cI, .int), (cZ, .boolean), (cO, .object "java/lang/Object"), (cL, .long)] b e0 A)) (vp_Si (fun z => z = bI (iAsk bu mk mt t))) 0 0 (fun _ => False) := by
  refine Met.ofG (own := R_MB) (by decide +kernel) rfl (Nat.le_of_ble_eq_true rfl) ?_
  intro p e s m below meth c ls hx hb hr hlk hml hown hnm hts hI hl
  have hl : lv_has ls 4 [(0, .ref h), (1, .ref h2), (2, .int (nI mk)), (3, .int (nI mt))] := hl
  obtain ⟨hP, hK⟩ := hI
  obtain ⟨hk, hv, fk, fv, fM, fK, fV, hn3, hms⟩ := id hBu
  refine lv_aload_n hx hb d_MB_isSought_0 rfl (lv_at hl 1 rfl) ?_
  refine g_get hx hb hts i_In hown hK.1 hP hi rfl 10 (by decide) (hts _ k_294) (fun _ h9 => h9) rfl d_MB_isSought_1 ?_
  refine lv_if_eq (tgt := 38) hx hb d_MB_isSought_4 (by decide) (fun c1 => ?_) (fun c1 => ?_)
  · skip
    rw [bI_0] at c1
    refine lv_iconst (v := 0) hx hb d_MB_isSought_38 (by decide) ?_
    exact W.zret hx hb hr rfl (fun t ht _ => ⟨_, rfl, (by simp_all [iAsk, bI]), ht⟩) (fun _ h => nomatch h) d_MB_isSought_39
  · skip
    rw [bI_0] at c1
    refine lv_aload_n hx hb d_MB_isSought_7 rfl (lv_at hl 1 rfl) ?_
    refine g_get hx hb hts i_In hown hK.1 hP hi rfl 0 (by decide) (hts _ k_273) (fun _ h9 => h9) rfl d_MB_isSought_8 ?_
    refine lv_iload_n hx hb d_MB_isSought_11 rfl (lv_at hl 2 rfl) ?_
    refine lv_icmp_ne (tgt := 38) hx hb d_MB_isSought_12 (by decide) (fun c2 => ?_) (fun c2 => ?_)
    · skip
      replace c2 : ¬ iMk t = mk := fun q => c2 ((nI_eq (a := iMk t) (b := mk) (by omega) (by omega)).mpr q)
      refine lv_iconst (v := 0) hx hb d_MB_isSought_38 (by decide) ?_
      exact W.zret hx hb hr rfl (fun t ht _ => ⟨_, rfl, (by simp_all [iAsk, bI]), ht⟩) (fun _ h => nomatch h) d_MB_isSought_39
    · skip
      replace c2 : iMk t = mk := (nI_eq (a := iMk t) (b := mk) (by omega) (by omega)).mp c2
      refine lv_aload_n hx hb d_MB_isSought_15 rfl (lv_at hl 1 rfl) ?_
      refine g_get hx hb hts i_In hown hK.1 hP hi rfl 1 (by decide) (hts _ k_276) (fun _ h9 => h9) rfl d_MB_isSought_16 ?_
      refine lv_iload_n hx hb d_MB_isSought_19 rfl (lv_at hl 3 rfl) ?_
      refine lv_icmp_ne (tgt := 38) hx hb d_MB_isSought_20 (by decide) (fun c3 => ?_) (fun c3 => ?_)
      · skip
        replace c3 : ¬ iMt t = mt := fun q => c3 ((nI_eq (a := iMt t) (b := mt) (by omega) (by omega)).mpr q)
        refine lv_iconst (v := 0) hx hb d_MB_isSought_38 (by decide) ?_
        exact W.zret hx hb hr rfl (fun t ht _ => ⟨_, rfl, (by simp_all [iAsk, bI]), ht⟩) (fun _ h => nomatch h) d_MB_isSought_39
      · skip
        replace c3 : iMt t = mt := (nI_eq (a := iMt t) (b := mt) (by omega) (by omega)).mp c3
        refine lv_aload_n hx hb d_MB_isSought_23 rfl (lv_at hl 0 rfl) ?_
        refine g_get hx hb hts i_MB hown hK.1 hP fB rfl 3 (by decide) (hts _ k_71) (fun _ h9 => h9) rfl d_MB_isSought_24 ?_
        refine lv_aload_n hx hb d_MB_isSought_27 rfl (lv_at hl 1 rfl) ?_
        refine g_ri (g_runV (As := [.ref h2]) (rest := []) ⟨hx, hb, hml, hown, hts⟩ (c_Ma_fit l hBu hi) st_Ma_fit k_369 ⟨rfl, rfl, by decide, by decide⟩ rfl (gI.preV hK va_S.rf hP fM rfl _) rfl hl.1 rfl (Nat.le_of_ble_eq_true rfl) d_MB_isSought_28 ⟨by decide, by decide⟩) (fun r4 hr4 => ?_)
        subst hr4
        refine lv_if_eq (tgt := 38) hx hb d_MB_isSought_31 (by decide) (fun c5 => ?_) (fun c5 => ?_)
        · skip
          rw [bI_0] at c5
          refine lv_iconst (v := 0) hx hb d_MB_isSought_38 (by decide) ?_
          exact W.zret hx hb hr rfl (fun t ht _ => ⟨_, rfl, (by simp_all [iAsk, bI]), ht⟩) (fun _ h => nomatch h) d_MB_isSought_39
        · skip
          rw [bI_0] at c5
          refine lv_iconst (v := 1) hx hb d_MB_isSought_34 (by decide) ?_
          refine lv_goto (tgt := 39) hx hb d_MB_isSought_35 (by decide) ?_
          exact W.zret hx hb hr rfl (fun t ht _ => ⟨_, rfl, (by simp_all [iAsk, bI]), ht⟩) (fun _ h => nomatch h) d_MB_isSought_39
set_option maxHeartbeats 4000000 in
set_option maxRecDepth 100000 in
theorem c_MB_verifySought (l : Launch) {D : va_G} {cI cZ cO cL : ClassId} {b e0 : Nat} {A : gW} {h ra ia sa ua : Nat} {aR aI aM : Nat → Nat} {fs : Nat → Int32} {σ : Bk} (hQ : rBq cI cZ cO e0 A h ra ia sa ua aR aI aM fs σ) (hl160 : (kIs σ).length ≤ 160) (hwI : ∀ i, i < (kIs σ).length → wfI ((kIs σ).getD i i0)) {mk mt : Nat} (b1 : mk < 4) (b2 : mt < 8) : Met l y_MB_verifySought (Cond.code y_MB_verifySought b_MB_verifySought 5 none :: TT) ({ frames := 4, cells := 0, slots := 0, locals := 89 }) (va_Pc [.ref h, .int (nI mk), .int (nI mt)] (gI D [(cI, .int), (cZ, .boolean), (cO, .object "java/lang/Object"), (cL, .long)] b e0 A)) (va_Qv (fun A2 : gW => rBq cI cZ cO e0 A2 h ra ia sa ua aR aI aM fs (kRs σ, (kIs σ).map (gVer (kBu σ) mk mt), kSt σ, kBu σ, kMk σ) ∧ gO A A2) (fun A2 t => gP D classes b A2 t.heap) (fun q => b ≤ q)) 0 0 (fun q => b ≤ q) := by
  refine Met.ofG (own := R_MB) (by decide +kernel) rfl (Nat.le_of_ble_eq_true rfl) ?_
  intro p e s m below meth c ls hx hb hr hlk hml hown hnm hts hI hl
  have hl : lv_has ls 5 [(0, .ref h), (1, .int (nI mk)), (2, .int (nI mt))] := hl
  have hS : gS b s.heap s.heap [] := va_S.rf
  obtain ⟨hP, hK⟩ := hI
  refine lv_iconst (v := 0) hx hb d_MB_verifySought_0 (by decide) ?_
  refine lv_istore_n (lv' := [(3, .int 0), (0, .ref h), (1, .int (nI mk)), (2, .int (nI mt))]) hx hb d_MB_verifySought_1 rfl hl (by decide) rfl (fun ls hl => ?_)
  obtain ⟨i, hi0⟩ : ∃ z : Nat, z = 0 := ⟨_, rfl⟩
  obtain ⟨B, hB0⟩ : ∃ z : gW, z = A := ⟨_, rfl⟩
  obtain ⟨H, hH0⟩ : ∃ z : Heap, z = s.heap := ⟨_, rfl⟩
  obtain ⟨locs, hlo0⟩ : ∃ z : List Loc, z = [] := ⟨_, rfl⟩
  obtain ⟨n, hn⟩ : ∃ z : Nat, i + z = (kIs σ).length := ⟨(kIs σ).length - i, by omega⟩
  replace hl : lv_has ls 5 [(3, .int (nI i)), (0, .ref h), (1, .int (nI mk)), (2, .int (nI mt))] := by rw [hi0, nI_0]; exact hl
  replace hP : gP D classes b B H := by rw [hB0, hH0]; exact hP
  replace hS : gS b s.heap H locs := by rw [hH0, hlo0]; exact hS
  have hQi : rBq cI cZ cO e0 B h ra ia sa ua aR aI aM fs (kRs σ, upT (gVer (kBu σ) mk mt) i (kIs σ), kSt σ, kBu σ, kMk σ) := by rw [hB0, hi0]; exact hQ
  have hgo : gO A B := by rw [hB0]; exact gO.rf
  rw [← hH0, ← hlo0]
  clear hi0 hB0 hH0 hlo0
  induction n generalizing i B H locs ls with
  | zero =>
    obtain ⟨fB, hLR, hLI, fS, hfs, hBu, hRs, hIs⟩ := id hQi
    have hlen : (upT (gVer (kBu σ) mk mt) i (kIs σ)).length = (kIs σ).length := upT_len _ _ _
    replace hLI : rAL cO e0 B 1 11 3 ia (kIs σ).length aI := by rw [← hlen]; exact hLI
    replace hIs : ∀ j, j < (kIs σ).length → rIn B j (aI j) ((upT (gVer (kBu σ) mk mt) i (kIs σ)).getD j i0) := fun j hj => hIs j (by show j < (upT (gVer (kBu σ) mk mt) i (kIs σ)).length; rw [hlen]; exact hj)
    obtain ⟨moI, qI, capI, efI, fLI, -⟩ := id hLI
    refine lv_iload_n hx hb d_MB_verifySought_2 rfl (lv_at hl 0 rfl) ?_
    refine lv_aload_n hx hb d_MB_verifySought_3 rfl (lv_at hl 1 rfl) ?_
    refine g_get hx hb hts i_MB hown hK.1 hP fB rfl 1 (by decide) (hts _ k_69) (fun _ h9 => h9) rfl d_MB_verifySought_4 ?_
    refine g_ri (g_runV (As := []) (rest := [.int (nI i)]) ⟨hx, hb, hml, hown, hts⟩ (c_AL_size l hLI) st_AL_size k_120 ⟨rfl, rfl, by decide, by decide⟩ rfl (gI.preV hK hS hP fLI rfl _) rfl hl.1 rfl (Nat.le_of_ble_eq_true rfl) d_MB_verifySought_7 ⟨by decide, by decide⟩) (fun r1 hr1 => ?_)
    subst hr1
    refine lv_icmp_ge (tgt := 49) hx hb d_MB_verifySought_10 (by decide) (fun _ => ?_) (fun h9 => absurd (nI_le (show (kIs σ).length ≤ i by omega) (by omega)) h9)
    refine W.widen (k := 0) (n := 0) (by decide) (by decide) ?_
    exact W.vret hx hb hr (fun t ht _ => ⟨⟨B, rfl, ⟨(by rw [← upT_all (gVer (kBu σ) mk mt) (i := i) _ (show (kIs σ).length ≤ i by omega)]; exact hQi), hgo⟩, show gP D classes b B t.heap by rw [ht]; exact hP⟩, hS.F ht⟩) hS.2.2 d_MB_verifySought_49
  | succ n ih =>
    obtain ⟨fB, hLR, hLI, fS, hfs, hBu, hRs, hIs⟩ := id hQi
    have hlen : (upT (gVer (kBu σ) mk mt) i (kIs σ)).length = (kIs σ).length := upT_len _ _ _
    replace hLI : rAL cO e0 B 1 11 3 ia (kIs σ).length aI := by rw [← hlen]; exact hLI
    replace hIs : ∀ j, j < (kIs σ).length → rIn B j (aI j) ((upT (gVer (kBu σ) mk mt) i (kIs σ)).getD j i0) := fun j hj => hIs j (by show j < (upT (gVer (kBu σ) mk mt) i (kIs σ)).length; rw [hlen]; exact hj)
    obtain ⟨moI, qI, capI, efI, fLI, -⟩ := id hLI
    refine lv_iload_n hx hb d_MB_verifySought_2 rfl (lv_at hl 0 rfl) ?_
    refine lv_aload_n hx hb d_MB_verifySought_3 rfl (lv_at hl 1 rfl) ?_
    refine g_get hx hb hts i_MB hown hK.1 hP fB rfl 1 (by decide) (hts _ k_69) (fun _ h9 => h9) rfl d_MB_verifySought_4 ?_
    refine g_ri (g_runV (As := []) (rest := [.int (nI i)]) ⟨hx, hb, hml, hown, hts⟩ (c_AL_size l hLI) st_AL_size k_120 ⟨rfl, rfl, by decide, by decide⟩ rfl (gI.preV hK hS hP fLI rfl _) rfl hl.1 rfl (Nat.le_of_ble_eq_true rfl) d_MB_verifySought_7 ⟨by decide, by decide⟩) (fun r3 hr3 => ?_)
    subst hr3
    refine lv_icmp_ge (tgt := 49) hx hb d_MB_verifySought_10 (by decide) (fun h9 => absurd h9 (nI_ge (show i < (kIs σ).length by omega) (by omega))) (fun _ => ?_)
    refine lv_aload_n hx hb d_MB_verifySought_13 rfl (lv_at hl 1 rfl) ?_
    refine g_get hx hb hts i_MB hown hK.1 hP fB rfl 1 (by decide) (hts _ k_69) (fun _ h9 => h9) rfl d_MB_verifySought_14 ?_
    refine lv_iload_n hx hb d_MB_verifySought_17 rfl (lv_at hl 0 rfl) ?_
    refine g_rr (g_runV (As := [.int (nI i)]) (rest := []) ⟨hx, hb, hml, hown, hts⟩ (c_AL_get l hLI (i := i) (by omega)) st_AL_get k_222 ⟨rfl, rfl, by decide, by decide⟩ rfl (gI.preV hK hS hP fLI rfl _) rfl hl.1 rfl (Nat.le_of_ble_eq_true rfl) d_MB_verifySought_18 ⟨by decide, by decide⟩) ?_
    obtain ⟨t5, ht5⟩ : ∃ z, z = (kIs σ).getD i i0 := ⟨_, rfl⟩
    have ft5 : rIn B i (aI i) t5 := by rw [ht5, ← upT_get _ _ _ (Nat.le_refl i)]; exact hIs i (by omega)
    obtain ⟨bt51, bt52⟩ : wfI t5 := by rw [ht5]; exact hwI i (by omega)
    refine va_castY (C := R_In) hx hb hown (hts _ k_263) (hK.2.1 _ (List.mem_of_getElem? (i := 6) rfl)) (va_recv (q0 := 0) hK.1 (hP.one ft5) rfl rfl) d_MB_verifySought_21 ?_
    refine lv_astore (lv' := [(4, .ref ((aI i))), (3, .int (nI i)), (0, .ref h), (1, .int (nI mk)), (2, .int (nI mt))]) hx hb d_MB_verifySought_24 hl (by decide) rfl (fun ls hl => ?_)
    refine lv_aload_n hx hb d_MB_verifySought_26 rfl (lv_at hl 2 rfl) ?_
    refine lv_aload hx hb d_MB_verifySought_27 (lv_at hl 0 rfl) ?_
    refine lv_iload_n hx hb d_MB_verifySought_29 rfl (lv_at hl 3 rfl) ?_
    refine lv_iload_n hx hb d_MB_verifySought_30 rfl (lv_at hl 4 rfl) ?_
    refine g_ri (g_runV (As := [.ref ((aI i)), .int (nI mk), .int (nI mt)]) (rest := []) ⟨hx, hb, hml, hown, hts⟩ (c_MB_isSought2 l fB hBu ft5 (by omega) (by omega) (by omega) (by omega)) st_MB_isSought k_365 ⟨rfl, rfl, by decide, by decide⟩ rfl (gI.preV hK hS hP fB rfl _) rfl hl.1 rfl (Nat.le_of_ble_eq_true rfl) d_MB_verifySought_31 ⟨by decide, by decide⟩) (fun r6 hr6 => ?_)
    subst hr6
    refine lv_if_eq (tgt := 43) hx hb d_MB_verifySought_34 (by decide) (fun c7 => ?_) (fun c7 => ?_)
    · skip
      rw [bI_0] at c7
      refine lv_iinc (v := nI (i + 1)) (lv' := [(3, .int (nI (i + 1))), (4, .ref ((aI i))), (0, .ref h), (1, .int (nI mk)), (2, .int (nI mt))]) hx hb d_MB_verifySought_43 hl (k := 1) rfl (nI_1 _) (by decide) rfl (fun ls hl => ?_)
      refine lv_goto (tgt := 2) hx hb d_MB_verifySought_46 (by decide) ?_
      exact ih _ _ _ _ _ (by omega) (lv_sub hl [0, 2, 3, 4] rfl) hP hS (by rw [upT_k _ _ i0 (by omega) (by rw [← ht5]; simp_all [gVer])]; exact hQi) hgo
    · skip
      rw [bI_0] at c7
      refine lv_aload hx hb d_MB_verifySought_37 (lv_at hl 0 rfl) ?_
      refine lv_iconst (v := 1) hx hb d_MB_verifySought_39 (by decide) ?_
      refine g_put (ty := .boolean) (v := .int 1) hx hb hts i_In t_In t_In_ok n_In hown hK.1 hP hS ft5 rfl 9 (by decide) (hts _ k_292) (fun _ h9 => h9) rfl (by decide +kernel) rfl rfl (Nat.le_of_ble_eq_true rfl) d_MB_verifySought_40 (fun H locs hP hS => ?_)
      obtain ⟨A8, eA8⟩ : ∃ z, z = gU B (11, i) ((aI i), .inr (3, [.int (nI (iMk t5)), .int (nI (iMt t5)), .int ((iX t5).1), .int ((iX t5).2.1), .int ((iX t5).2.2), .int (nI (iDp t5)), .int (iFr t5), .int (nI (iRu t5) - 1), .long (iAn t5), .int 1, .int (bI (iLv t5))])) := ⟨_, rfl⟩
      replace hP : gP D classes b A8 H := by rw [eA8]; exact hP
      have f9 : A8 (0, 0) = some (h, .inr (0, [.ref ra, .ref ia, .ref sa, .ref ua, .int (nI (kMk σ) - 1)])) := (by rw [eA8]; exact gU_n (gne (show (0 : Nat) ≠ 11 by decide)) : A8 (0, 0) = B (0, 0)).trans fB
      have f10 : A8 (1, 1) = some (ia, .inr (4, [.int moI, .ref qI, .int (nI (kIs σ).length)])) := (by rw [eA8]; exact gU_n (gne (show (1 : Nat) ≠ 11 by decide)) : A8 (1, 1) = B (1, 1)).trans fLI
      have f11 : A8 (11, i) = some ((aI i), .inr (3, [.int (nI (iMk t5)), .int (nI (iMt t5)), .int ((iX t5).1), .int ((iX t5).2.1), .int ((iX t5).2.2), .int (nI (iDp t5)), .int (iFr t5), .int (nI (iRu t5) - 1), .long (iAn t5), .int 1, .int (bI (iLv t5))])) := by rw [eA8]; exact gU_s
      have gA8 : gF [11] i B A8 := by rw [eA8]; exact gF_U gF.rf (by decide)
      refine lv_iinc (v := nI (i + 1)) (lv' := [(3, .int (nI (i + 1))), (4, .ref ((aI i))), (0, .ref h), (1, .int (nI mk)), (2, .int (nI mt))]) hx hb d_MB_verifySought_43 hl (k := 1) rfl (nI_1 _) (by decide) rfl (fun ls hl => ?_)
      refine lv_goto (tgt := 2) hx hb d_MB_verifySought_46 (by decide) ?_
      exact ih _ _ _ _ _ (by omega) (lv_sub hl [0, 2, 3, 4] rfl) hP hS (by rw [upT_s _ _ i0 (by omega), ← ht5, show gVer (kBu σ) mk mt t5 = iVer t5 by simp_all [gVer]]; exact hQi.it (i := i) (by show i < (upT (gVer (kBu σ) mk mt) i (kIs σ)).length; rw [hlen]; omega) gA8 (show rIn A8 i (aI i) _ from f11)) (hgo.trans (gA8.out rfl))
set_option maxHeartbeats 4000000 in
set_option maxRecDepth 100000 in
theorem c_MB_endInteractions (l : Launch) {D : va_G} {cI cZ cO cL : ClassId} {b e0 : Nat} {A : gW} {h ra ia sa ua : Nat} {aR aI aM : Nat → Nat} {fs : Nat → Int32} {σ : Bk} (hQ : rBq cI cZ cO e0 A h ra ia sa ua aR aI aM fs σ) (hl160 : (kIs σ).length ≤ 160) (hwI : ∀ i, i < (kIs σ).length → wfI ((kIs σ).getD i i0)) {mk : Nat} (b1 : mk < 4) : Met l y_MB_endInteractions (Cond.code y_MB_endInteractions b_MB_endInteractions 5 (some .int) :: TT) ({ frames := 3, cells := 0, slots := 0, locals := 64 }) (va_Pc [.ref h, .int (nI mk)] (gI D [(cI, .int), (cZ, .boolean), (cO, .object "java/lang/Object"), (cL, .long)] b e0 A)) (va_Qi (fun (z : Int32) (A2 : gW) => z = nI (cnt (qEnd (kIs σ) mk) (kIs σ).length) ∧ rBq cI cZ cO e0 A2 h ra ia sa ua aR aI aM fs (kRs σ, (kIs σ).map (gEndI mk), kSt σ, kBu σ, kMk σ) ∧ gO A A2) (fun A2 t => gP D classes b A2 t.heap) (fun q => b ≤ q)) 0 0 (fun q => b ≤ q) := by
  refine Met.ofG (own := R_MB) (by decide +kernel) rfl (Nat.le_of_ble_eq_true rfl) ?_
  intro p e s m below meth c ls hx hb hr hlk hml hown hnm hts hI hl
  have hl : lv_has ls 5 [(0, .ref h), (1, .int (nI mk))] := hl
  have hS : gS b s.heap s.heap [] := va_S.rf
  obtain ⟨hP, hK⟩ := hI
  refine lv_iconst (v := 0) hx hb d_MB_endInteractions_0 (by decide) ?_
  refine lv_istore_n (lv' := [(2, .int 0), (0, .ref h), (1, .int (nI mk))]) hx hb d_MB_endInteractions_1 rfl hl (by decide) rfl (fun ls hl => ?_)
  refine lv_iconst (v := 0) hx hb d_MB_endInteractions_2 (by decide) ?_
  refine lv_istore_n (lv' := [(3, .int 0), (2, .int 0), (0, .ref h), (1, .int (nI mk))]) hx hb d_MB_endInteractions_3 rfl hl (by decide) rfl (fun ls hl => ?_)
  obtain ⟨i, hi0⟩ : ∃ z : Nat, z = 0 := ⟨_, rfl⟩
  obtain ⟨cn, hcn0⟩ : ∃ z : Nat, z = 0 := ⟨_, rfl⟩
  obtain ⟨B, hB0⟩ : ∃ z : gW, z = A := ⟨_, rfl⟩
  obtain ⟨H, hH0⟩ : ∃ z : Heap, z = s.heap := ⟨_, rfl⟩
  obtain ⟨locs, hlo0⟩ : ∃ z : List Loc, z = [] := ⟨_, rfl⟩
  obtain ⟨n, hn⟩ : ∃ z : Nat, i + z = (kIs σ).length := ⟨(kIs σ).length - i, by omega⟩
  replace hl : lv_has ls 5 [(3, .int (nI i)), (2, .int (nI cn)), (0, .ref h), (1, .int (nI mk))] := by rw [hi0, hcn0, nI_0]; exact hl
  replace hP : gP D classes b B H := by rw [hB0, hH0]; exact hP
  replace hS : gS b s.heap H locs := by rw [hH0, hlo0]; exact hS
  have hQi : rBq cI cZ cO e0 B h ra ia sa ua aR aI aM fs (kRs σ, upT (gEndI mk) i (kIs σ), kSt σ, kBu σ, kMk σ) := by rw [hB0, hi0]; exact hQ
  have hgo : gO A B := by rw [hB0]; exact gO.rf
  have hinv : cn = cnt (qEnd (kIs σ) mk) i := by rw [hi0, hcn0]; rfl
  rw [← hH0, ← hlo0]
  clear hi0 hB0 hH0 hlo0 hcn0
  induction n generalizing i cn B H locs ls with
  | zero =>
    obtain ⟨fB, hLR, hLI, fS, hfs, hBu, hRs, hIs⟩ := id hQi
    have hlen : (upT (gEndI mk) i (kIs σ)).length = (kIs σ).length := upT_len _ _ _
    replace hLI : rAL cO e0 B 1 11 3 ia (kIs σ).length aI := by rw [← hlen]; exact hLI
    replace hIs : ∀ j, j < (kIs σ).length → rIn B j (aI j) ((upT (gEndI mk) i (kIs σ)).getD j i0) := fun j hj => hIs j (by show j < (upT (gEndI mk) i (kIs σ)).length; rw [hlen]; exact hj)
    obtain ⟨moI, qI, capI, efI, fLI, -⟩ := id hLI
    refine lv_iload_n hx hb d_MB_endInteractions_4 rfl (lv_at hl 0 rfl) ?_
    refine lv_aload_n hx hb d_MB_endInteractions_5 rfl (lv_at hl 2 rfl) ?_
    refine g_get hx hb hts i_MB hown hK.1 hP fB rfl 1 (by decide) (hts _ k_69) (fun _ h9 => h9) rfl d_MB_endInteractions_6 ?_
    refine g_ri (g_runV (As := []) (rest := [.int (nI i)]) ⟨hx, hb, hml, hown, hts⟩ (c_AL_size l hLI) st_AL_size k_120 ⟨rfl, rfl, by decide, by decide⟩ rfl (gI.preV hK hS hP fLI rfl _) rfl hl.1 rfl (Nat.le_of_ble_eq_true rfl) d_MB_endInteractions_9 ⟨by decide, by decide⟩) (fun r1 hr1 => ?_)
    subst hr1
    refine lv_icmp_ge (tgt := 60) hx hb d_MB_endInteractions_12 (by decide) (fun _ => ?_) (fun h9 => absurd (nI_le (show (kIs σ).length ≤ i by omega) (by omega)) h9)
    refine lv_iload_n hx hb d_MB_endInteractions_60 rfl (lv_at hl 1 rfl) ?_
    refine W.widen (k := 0) (n := 0) (by decide) (by decide) ?_
    exact W.iret hx hb hr (fun t ht _ => ⟨⟨_, B, rfl, ⟨by rw [hinv, show i = (kIs σ).length by omega], (by rw [← upT_all (gEndI mk) (i := i) _ (show (kIs σ).length ≤ i by omega)]; exact hQi), hgo⟩, show gP D classes b B t.heap by rw [ht]; exact hP⟩, hS.F ht⟩) hS.2.2 d_MB_endInteractions_61
  | succ n ih =>
    obtain ⟨fB, hLR, hLI, fS, hfs, hBu, hRs, hIs⟩ := id hQi
    have hlen : (upT (gEndI mk) i (kIs σ)).length = (kIs σ).length := upT_len _ _ _
    replace hLI : rAL cO e0 B 1 11 3 ia (kIs σ).length aI := by rw [← hlen]; exact hLI
    replace hIs : ∀ j, j < (kIs σ).length → rIn B j (aI j) ((upT (gEndI mk) i (kIs σ)).getD j i0) := fun j hj => hIs j (by show j < (upT (gEndI mk) i (kIs σ)).length; rw [hlen]; exact hj)
    obtain ⟨moI, qI, capI, efI, fLI, -⟩ := id hLI
    refine lv_iload_n hx hb d_MB_endInteractions_4 rfl (lv_at hl 0 rfl) ?_
    refine lv_aload_n hx hb d_MB_endInteractions_5 rfl (lv_at hl 2 rfl) ?_
    refine g_get hx hb hts i_MB hown hK.1 hP fB rfl 1 (by decide) (hts _ k_69) (fun _ h9 => h9) rfl d_MB_endInteractions_6 ?_
    refine g_ri (g_runV (As := []) (rest := [.int (nI i)]) ⟨hx, hb, hml, hown, hts⟩ (c_AL_size l hLI) st_AL_size k_120 ⟨rfl, rfl, by decide, by decide⟩ rfl (gI.preV hK hS hP fLI rfl _) rfl hl.1 rfl (Nat.le_of_ble_eq_true rfl) d_MB_endInteractions_9 ⟨by decide, by decide⟩) (fun r3 hr3 => ?_)
    subst hr3
    refine lv_icmp_ge (tgt := 60) hx hb d_MB_endInteractions_12 (by decide) (fun h9 => absurd h9 (nI_ge (show i < (kIs σ).length by omega) (by omega))) (fun _ => ?_)
    refine lv_aload_n hx hb d_MB_endInteractions_15 rfl (lv_at hl 2 rfl) ?_
    refine g_get hx hb hts i_MB hown hK.1 hP fB rfl 1 (by decide) (hts _ k_69) (fun _ h9 => h9) rfl d_MB_endInteractions_16 ?_
    refine lv_iload_n hx hb d_MB_endInteractions_19 rfl (lv_at hl 0 rfl) ?_
    refine g_rr (g_runV (As := [.int (nI i)]) (rest := []) ⟨hx, hb, hml, hown, hts⟩ (c_AL_get l hLI (i := i) (by omega)) st_AL_get k_222 ⟨rfl, rfl, by decide, by decide⟩ rfl (gI.preV hK hS hP fLI rfl _) rfl hl.1 rfl (Nat.le_of_ble_eq_true rfl) d_MB_endInteractions_20 ⟨by decide, by decide⟩) ?_
    obtain ⟨t5, ht5⟩ : ∃ z, z = (kIs σ).getD i i0 := ⟨_, rfl⟩
    have ft5 : rIn B i (aI i) t5 := by rw [ht5, ← upT_get _ _ _ (Nat.le_refl i)]; exact hIs i (by omega)
    obtain ⟨bt51, bt52⟩ : wfI t5 := by rw [ht5]; exact hwI i (by omega)
    refine va_castY (C := R_In) hx hb hown (hts _ k_263) (hK.2.1 _ (List.mem_of_getElem? (i := 6) rfl)) (va_recv (q0 := 0) hK.1 (hP.one ft5) rfl rfl) d_MB_endInteractions_23 ?_
    refine lv_astore (lv' := [(4, .ref ((aI i))), (3, .int (nI i)), (2, .int (nI cn)), (0, .ref h), (1, .int (nI mk))]) hx hb d_MB_endInteractions_26 hl (by decide) rfl (fun ls hl => ?_)
    refine lv_aload hx hb d_MB_endInteractions_28 (lv_at hl 0 rfl) ?_
    refine g_get hx hb hts i_In hown hK.1 hP ft5 rfl 10 (by decide) (hts _ k_294) (fun _ h9 => h9) rfl d_MB_endInteractions_30 ?_
    refine lv_if_eq (tgt := 54) hx hb d_MB_endInteractions_33 (by decide) (fun c6 => ?_) (fun c6 => ?_)
    · skip
      rw [bI_0] at c6
      refine lv_iinc (v := nI (i + 1)) (lv' := [(3, .int (nI (i + 1))), (4, .ref ((aI i))), (2, .int (nI cn)), (0, .ref h), (1, .int (nI mk))]) hx hb d_MB_endInteractions_54 hl (k := 1) rfl (nI_1 _) (by decide) rfl (fun ls hl => ?_)
      refine lv_goto (tgt := 4) hx hb d_MB_endInteractions_57 (by decide) ?_
      exact ih _ _ _ _ _ _ (by omega) (lv_sub hl [0, 2, 3, 4] rfl) hP hS (by rw [upT_k _ _ i0 (by omega) (by rw [← ht5]; simp_all [gEndI])]; exact hQi) hgo (by simp_all [cnt, qEnd])
    · skip
      rw [bI_0] at c6
      refine lv_aload hx hb d_MB_endInteractions_36 (lv_at hl 0 rfl) ?_
      refine g_get hx hb hts i_In hown hK.1 hP ft5 rfl 0 (by decide) (hts _ k_273) (fun _ h9 => h9) rfl d_MB_endInteractions_38 ?_
      refine lv_iload_n hx hb d_MB_endInteractions_41 rfl (lv_at hl 4 rfl) ?_
      refine lv_icmp_ne (tgt := 54) hx hb d_MB_endInteractions_42 (by decide) (fun c7 => ?_) (fun c7 => ?_)
      · skip
        replace c7 : ¬ iMk t5 = mk := fun q => c7 ((nI_eq (a := iMk t5) (b := mk) (by omega) (by omega)).mpr q)
        refine lv_iinc (v := nI (i + 1)) (lv' := [(3, .int (nI (i + 1))), (4, .ref ((aI i))), (2, .int (nI cn)), (0, .ref h), (1, .int (nI mk))]) hx hb d_MB_endInteractions_54 hl (k := 1) rfl (nI_1 _) (by decide) rfl (fun ls hl => ?_)
        refine lv_goto (tgt := 4) hx hb d_MB_endInteractions_57 (by decide) ?_
        exact ih _ _ _ _ _ _ (by omega) (lv_sub hl [0, 2, 3, 4] rfl) hP hS (by rw [upT_k _ _ i0 (by omega) (by rw [← ht5]; simp_all [gEndI])]; exact hQi) hgo (by simp_all [cnt, qEnd])
      · skip
        replace c7 : iMk t5 = mk := (nI_eq (a := iMk t5) (b := mk) (by omega) (by omega)).mp c7
        refine lv_aload hx hb d_MB_endInteractions_45 (lv_at hl 0 rfl) ?_
        refine lv_iconst (v := 0) hx hb d_MB_endInteractions_47 (by decide) ?_
        refine g_put (ty := .boolean) (v := .int 0) hx hb hts i_In t_In t_In_ok n_In hown hK.1 hP hS ft5 rfl 10 (by decide) (hts _ k_294) (fun _ h9 => h9) rfl (by decide +kernel) rfl rfl (Nat.le_of_ble_eq_true rfl) d_MB_endInteractions_48 (fun H locs hP hS => ?_)
        obtain ⟨A8, eA8⟩ : ∃ z, z = gU B (11, i) ((aI i), .inr (3, [.int (nI (iMk t5)), .int (nI (iMt t5)), .int ((iX t5).1), .int ((iX t5).2.1), .int ((iX t5).2.2), .int (nI (iDp t5)), .int (iFr t5), .int (nI (iRu t5) - 1), .long (iAn t5), .int (bI (iVe t5)), .int 0])) := ⟨_, rfl⟩
        replace hP : gP D classes b A8 H := by rw [eA8]; exact hP
        have f9 : A8 (0, 0) = some (h, .inr (0, [.ref ra, .ref ia, .ref sa, .ref ua, .int (nI (kMk σ) - 1)])) := (by rw [eA8]; exact gU_n (gne (show (0 : Nat) ≠ 11 by decide)) : A8 (0, 0) = B (0, 0)).trans fB
        have f10 : A8 (1, 1) = some (ia, .inr (4, [.int moI, .ref qI, .int (nI (kIs σ).length)])) := (by rw [eA8]; exact gU_n (gne (show (1 : Nat) ≠ 11 by decide)) : A8 (1, 1) = B (1, 1)).trans fLI
        have f11 : A8 (11, i) = some ((aI i), .inr (3, [.int (nI (iMk t5)), .int (nI (iMt t5)), .int ((iX t5).1), .int ((iX t5).2.1), .int ((iX t5).2.2), .int (nI (iDp t5)), .int (iFr t5), .int (nI (iRu t5) - 1), .long (iAn t5), .int (bI (iVe t5)), .int 0])) := by rw [eA8]; exact gU_s
        have gA8 : gF [11] i B A8 := by rw [eA8]; exact gF_U gF.rf (by decide)
        refine lv_iinc (v := nI (cn + 1)) (lv' := [(2, .int (nI (cn + 1))), (4, .ref ((aI i))), (3, .int (nI i)), (0, .ref h), (1, .int (nI mk))]) hx hb d_MB_endInteractions_51 hl (k := 2) rfl (nI_1 _) (by decide) rfl (fun ls hl => ?_)
        refine lv_iinc (v := nI (i + 1)) (lv' := [(3, .int (nI (i + 1))), (2, .int (nI (cn + 1))), (4, .ref ((aI i))), (0, .ref h), (1, .int (nI mk))]) hx hb d_MB_endInteractions_54 hl (k := 2) rfl (nI_1 _) (by decide) rfl (fun ls hl => ?_)
        refine lv_goto (tgt := 4) hx hb d_MB_endInteractions_57 (by decide) ?_
        exact ih _ _ _ _ _ _ (by omega) (lv_sub hl [0, 1, 3, 4] rfl) hP hS (by rw [upT_s _ _ i0 (by omega), ← ht5, show gEndI mk t5 = iEnd t5 by simp_all [gEndI]]; exact hQi.it (i := i) (by show i < (upT (gEndI mk) i (kIs σ)).length; rw [hlen]; omega) gA8 (show rIn A8 i (aI i) _ from f11)) (hgo.trans (gA8.out rfl)) (by simp_all [cnt, qEnd])
set_option maxHeartbeats 4000000 in
set_option maxRecDepth 100000 in
theorem c_MB_endRules (l : Launch) {D : va_G} {cI cZ cO cL : ClassId} {b e0 : Nat} {A : gW} {h ra ia sa ua : Nat} {aR aI aM : Nat → Nat} {fs : Nat → Int32} {σ : Bk} (hQ : rBq cI cZ cO e0 A h ra ia sa ua aR aI aM fs σ) (hl24 : (kRs σ).length ≤ 24) (hwR : ∀ i, i < (kRs σ).length → uMk ((kRs σ).getD i u0) < 4) {mk : Nat} (b1 : mk < 4) : Met l y_MB_endRules (Cond.code y_MB_endRules b_MB_endRules 4 none :: TT) ({ frames := 3, cells := 0, slots := 0, locals := 64 }) (va_Pc [.ref h, .int (nI mk)] (gI D [(cI, .int), (cZ, .boolean), (cO, .object "java/lang/Object"), (cL, .long)] b e0 A)) (va_Qv (fun A2 : gW => rBq cI cZ cO e0 A2 h ra ia sa ua aR aI aM fs ((kRs σ).map (gEndR mk), kIs σ, kSt σ, kBu σ, kMk σ) ∧ gO A A2) (fun A2 t => gP D classes b A2 t.heap) (fun q => b ≤ q)) 0 0 (fun q => b ≤ q) := by
  refine Met.ofG (own := R_MB) (by decide +kernel) rfl (Nat.le_of_ble_eq_true rfl) ?_
  intro p e s m below meth c ls hx hb hr hlk hml hown hnm hts hI hl
  have hl : lv_has ls 4 [(0, .ref h), (1, .int (nI mk))] := hl
  have hS : gS b s.heap s.heap [] := va_S.rf
  obtain ⟨hP, hK⟩ := hI
  refine lv_iconst (v := 0) hx hb d_MB_endRules_0 (by decide) ?_
  refine lv_istore_n (lv' := [(2, .int 0), (0, .ref h), (1, .int (nI mk))]) hx hb d_MB_endRules_1 rfl hl (by decide) rfl (fun ls hl => ?_)
  obtain ⟨i, hi0⟩ : ∃ z : Nat, z = 0 := ⟨_, rfl⟩
  obtain ⟨B, hB0⟩ : ∃ z : gW, z = A := ⟨_, rfl⟩
  obtain ⟨H, hH0⟩ : ∃ z : Heap, z = s.heap := ⟨_, rfl⟩
  obtain ⟨locs, hlo0⟩ : ∃ z : List Loc, z = [] := ⟨_, rfl⟩
  obtain ⟨n, hn⟩ : ∃ z : Nat, i + z = (kRs σ).length := ⟨(kRs σ).length - i, by omega⟩
  replace hl : lv_has ls 4 [(2, .int (nI i)), (0, .ref h), (1, .int (nI mk))] := by rw [hi0, nI_0]; exact hl
  replace hP : gP D classes b B H := by rw [hB0, hH0]; exact hP
  replace hS : gS b s.heap H locs := by rw [hH0, hlo0]; exact hS
  have hQi : rBq cI cZ cO e0 B h ra ia sa ua aR aI aM fs (upT (gEndR mk) i (kRs σ), kIs σ, kSt σ, kBu σ, kMk σ) := by rw [hB0, hi0]; exact hQ
  have hgo : gO A B := by rw [hB0]; exact gO.rf
  rw [← hH0, ← hlo0]
  clear hi0 hB0 hH0 hlo0
  induction n generalizing i B H locs ls with
  | zero =>
    obtain ⟨fB, hLR, hLI, fS, hfs, hBu, hRs, hIs⟩ := id hQi
    have hlen : (upT (gEndR mk) i (kRs σ)).length = (kRs σ).length := upT_len _ _ _
    replace hLR : rAL cO e0 B 0 8 2 ra (kRs σ).length aR := by rw [← hlen]; exact hLR
    replace hRs : ∀ j, j < (kRs σ).length → rMa cI B j (aM j) (uMs ((upT (gEndR mk) i (kRs σ)).getD j u0)) ∧ rRu cI B j (aR j) (aM j) ((upT (gEndR mk) i (kRs σ)).getD j u0) := fun j hj => hRs j (by show j < (upT (gEndR mk) i (kRs σ)).length; rw [hlen]; exact hj)
    obtain ⟨moR, qR, capR, efR, fLR, -⟩ := id hLR
    refine lv_iload_n hx hb d_MB_endRules_2 rfl (lv_at hl 0 rfl) ?_
    refine lv_aload_n hx hb d_MB_endRules_3 rfl (lv_at hl 1 rfl) ?_
    refine g_get hx hb hts i_MB hown hK.1 hP fB rfl 0 (by decide) (hts _ k_68) (fun _ h9 => h9) rfl d_MB_endRules_4 ?_
    refine g_ri (g_runV (As := []) (rest := [.int (nI i)]) ⟨hx, hb, hml, hown, hts⟩ (c_AL_size l hLR) st_AL_size k_120 ⟨rfl, rfl, by decide, by decide⟩ rfl (gI.preV hK hS hP fLR rfl _) rfl hl.1 rfl (Nat.le_of_ble_eq_true rfl) d_MB_endRules_7 ⟨by decide, by decide⟩) (fun r1 hr1 => ?_)
    subst hr1
    refine lv_icmp_ge (tgt := 44) hx hb d_MB_endRules_10 (by decide) (fun _ => ?_) (fun h9 => absurd (nI_le (show (kRs σ).length ≤ i by omega) (by omega)) h9)
    refine W.widen (k := 0) (n := 0) (by decide) (by decide) ?_
    exact W.vret hx hb hr (fun t ht _ => ⟨⟨B, rfl, ⟨(by rw [← upT_all (gEndR mk) (i := i) _ (show (kRs σ).length ≤ i by omega)]; exact hQi), hgo⟩, show gP D classes b B t.heap by rw [ht]; exact hP⟩, hS.F ht⟩) hS.2.2 d_MB_endRules_44
  | succ n ih =>
    obtain ⟨fB, hLR, hLI, fS, hfs, hBu, hRs, hIs⟩ := id hQi
    have hlen : (upT (gEndR mk) i (kRs σ)).length = (kRs σ).length := upT_len _ _ _
    replace hLR : rAL cO e0 B 0 8 2 ra (kRs σ).length aR := by rw [← hlen]; exact hLR
    replace hRs : ∀ j, j < (kRs σ).length → rMa cI B j (aM j) (uMs ((upT (gEndR mk) i (kRs σ)).getD j u0)) ∧ rRu cI B j (aR j) (aM j) ((upT (gEndR mk) i (kRs σ)).getD j u0) := fun j hj => hRs j (by show j < (upT (gEndR mk) i (kRs σ)).length; rw [hlen]; exact hj)
    obtain ⟨moR, qR, capR, efR, fLR, -⟩ := id hLR
    refine lv_iload_n hx hb d_MB_endRules_2 rfl (lv_at hl 0 rfl) ?_
    refine lv_aload_n hx hb d_MB_endRules_3 rfl (lv_at hl 1 rfl) ?_
    refine g_get hx hb hts i_MB hown hK.1 hP fB rfl 0 (by decide) (hts _ k_68) (fun _ h9 => h9) rfl d_MB_endRules_4 ?_
    refine g_ri (g_runV (As := []) (rest := [.int (nI i)]) ⟨hx, hb, hml, hown, hts⟩ (c_AL_size l hLR) st_AL_size k_120 ⟨rfl, rfl, by decide, by decide⟩ rfl (gI.preV hK hS hP fLR rfl _) rfl hl.1 rfl (Nat.le_of_ble_eq_true rfl) d_MB_endRules_7 ⟨by decide, by decide⟩) (fun r3 hr3 => ?_)
    subst hr3
    refine lv_icmp_ge (tgt := 44) hx hb d_MB_endRules_10 (by decide) (fun h9 => absurd h9 (nI_ge (show i < (kRs σ).length by omega) (by omega))) (fun _ => ?_)
    refine lv_aload_n hx hb d_MB_endRules_13 rfl (lv_at hl 1 rfl) ?_
    refine g_get hx hb hts i_MB hown hK.1 hP fB rfl 0 (by decide) (hts _ k_68) (fun _ h9 => h9) rfl d_MB_endRules_14 ?_
    refine lv_iload_n hx hb d_MB_endRules_17 rfl (lv_at hl 0 rfl) ?_
    refine g_rr (g_runV (As := [.int (nI i)]) (rest := []) ⟨hx, hb, hml, hown, hts⟩ (c_AL_get l hLR (i := i) (by omega)) st_AL_get k_222 ⟨rfl, rfl, by decide, by decide⟩ rfl (gI.preV hK hS hP fLR rfl _) rfl hl.1 rfl (Nat.le_of_ble_eq_true rfl) d_MB_endRules_18 ⟨by decide, by decide⟩) ?_
    obtain ⟨r5, hr5⟩ : ∃ z, z = (kRs σ).getD i u0 := ⟨_, rfl⟩
    have fr5 : rRu cI B i (aR i) (aM i) r5 := by rw [hr5, ← upT_get _ _ _ (Nat.le_refl i)]; exact (hRs i (by omega)).2
    have br5 : uMk r5 < 4 := by rw [hr5]; exact hwR i (by omega)
    obtain ⟨hk5, hv5, fk5, fv5, fR5, fK5, fV5, hn5, hac5⟩ := id fr5
    refine va_castY (C := R_Ru) hx hb hown (hts _ k_124) (hK.2.1 _ (List.mem_of_getElem? (i := 5) rfl)) (va_recv (q0 := 0) hK.1 (hP.one fR5) rfl rfl) d_MB_endRules_21 ?_
    refine lv_astore_n (lv' := [(3, .ref ((aR i))), (2, .int (nI i)), (0, .ref h), (1, .int (nI mk))]) hx hb d_MB_endRules_24 rfl hl (by decide) rfl (fun ls hl => ?_)
    refine lv_aload_n hx hb d_MB_endRules_25 rfl (lv_at hl 0 rfl) ?_
    refine g_get hx hb hts i_Ru hown hK.1 hP fR5 rfl 0 (by decide) (hts _ k_131) (fun _ h9 => h9) rfl d_MB_endRules_26 ?_
    refine lv_iload_n hx hb d_MB_endRules_29 rfl (lv_at hl 3 rfl) ?_
    refine lv_icmp_ne (tgt := 38) hx hb d_MB_endRules_30 (by decide) (fun c6 => ?_) (fun c6 => ?_)
    · skip
      replace c6 : ¬ uMk r5 = mk := fun q => c6 ((nI_eq (a := uMk r5) (b := mk) (by omega) (by omega)).mpr q)
      refine lv_iinc (v := nI (i + 1)) (lv' := [(2, .int (nI (i + 1))), (3, .ref ((aR i))), (0, .ref h), (1, .int (nI mk))]) hx hb d_MB_endRules_38 hl (k := 1) rfl (nI_1 _) (by decide) rfl (fun ls hl => ?_)
      refine lv_goto (tgt := 2) hx hb d_MB_endRules_41 (by decide) ?_
      exact ih _ _ _ _ _ (by omega) (lv_sub hl [0, 2, 3] rfl) hP hS (by rw [upT_k _ _ u0 (by omega) (by rw [← hr5]; simp_all [gEndR])]; exact hQi) hgo
    · skip
      replace c6 : uMk r5 = mk := (nI_eq (a := uMk r5) (b := mk) (by omega) (by omega)).mp c6
      refine lv_aload_n hx hb d_MB_endRules_33 rfl (lv_at hl 0 rfl) ?_
      refine lv_iconst (v := 0) hx hb d_MB_endRules_34 (by decide) ?_
      refine g_put (ty := .boolean) (v := .int 0) hx hb hts i_Ru t_Ru t_Ru_ok n_Ru hown hK.1 hP hS fR5 rfl 7 (by decide) (hts _ k_143) (fun _ h9 => h9) rfl (by decide +kernel) rfl rfl (Nat.le_of_ble_eq_true rfl) d_MB_endRules_35 (fun H locs hP hS => ?_)
      obtain ⟨A7, eA7⟩ : ∃ z, z = gU B (8, i) ((aR i), .inr (2, [.int (nI (uMk r5)), .int (nI (uMt r5)), .ref ((aM i)), .ref hk5, .ref hv5, .int (nI (uAc r5).length), .int (nI (uUs r5)), .int 0])) := ⟨_, rfl⟩
      replace hP : gP D classes b A7 H := by rw [eA7]; exact hP
      have f8 : A7 (0, 0) = some (h, .inr (0, [.ref ra, .ref ia, .ref sa, .ref ua, .int (nI (kMk σ) - 1)])) := (by rw [eA7]; exact gU_n (gne (show (0 : Nat) ≠ 8 by decide)) : A7 (0, 0) = B (0, 0)).trans fB
      have f9 : A7 (1, 0) = some (ra, .inr (4, [.int moR, .ref qR, .int (nI (kRs σ).length)])) := (by rw [eA7]; exact gU_n (gne (show (1 : Nat) ≠ 8 by decide)) : A7 (1, 0) = B (1, 0)).trans fLR
      have f10 : A7 (9, i) = some (hk5, .inl (cI, 4, .inl fk5)) := (by rw [eA7]; exact gU_n (gne (show (9 : Nat) ≠ 8 by decide)) : A7 (9, i) = B (9, i)).trans fK5
      have f11 : A7 (10, i) = some (hv5, .inl (cI, 4, .inl fv5)) := (by rw [eA7]; exact gU_n (gne (show (10 : Nat) ≠ 8 by decide)) : A7 (10, i) = B (10, i)).trans fV5
      have f12 : A7 (8, i) = some ((aR i), .inr (2, [.int (nI (uMk r5)), .int (nI (uMt r5)), .ref ((aM i)), .ref hk5, .ref hv5, .int (nI (uAc r5).length), .int (nI (uUs r5)), .int 0])) := by rw [eA7]; exact gU_s
      have gA7 : gF [8, 9, 10] i B A7 := by rw [eA7]; exact gF_U gF.rf (by decide)
      refine lv_iinc (v := nI (i + 1)) (lv' := [(2, .int (nI (i + 1))), (3, .ref ((aR i))), (0, .ref h), (1, .int (nI mk))]) hx hb d_MB_endRules_38 hl (k := 1) rfl (nI_1 _) (by decide) rfl (fun ls hl => ?_)
      refine lv_goto (tgt := 2) hx hb d_MB_endRules_41 (by decide) ?_
      exact ih _ _ _ _ _ (by omega) (lv_sub hl [0, 2, 3] rfl) hP hS (by rw [upT_s _ _ u0 (by omega), ← hr5, show gEndR mk r5 = uEnd r5 by simp_all [gEndR]]; exact hQi.ru (i := i) (by show i < (upT (gEndR mk) i (kRs σ)).length; rw [hlen]; omega) gA7 (show rRu cI A7 i (aR i) (aM i) _ from ⟨hk5, hv5, fk5, fv5, f12, f10, f11, hn5, hac5⟩) (by show _ = uMs ((upT (gEndR mk) i (kRs σ)).getD i u0); rw [upT_get _ _ _ (Nat.le_refl i), ← hr5]; rfl)) (hgo.trans (gA7.out rfl))
end
section
set_option maxHeartbeats 4000000 in
set_option maxRecDepth 100000 in
theorem c_MB_reset (l : Launch) {D : va_G} {cI cZ cO cL : ClassId} {b e0 : Nat} {A : gW} {h : Nat} {σ : Bk} (hB : rBk cI cZ cO e0 A h σ) (hw : wf σ) (x : Int32) : Met l y_MB_reset (Cond.code y_MB_reset b_MB_reset 2 (some .int) :: TT) ({ frames := 4, cells := 0, slots := 0, locals := 88 }) (va_Pc [.ref h, .int x] (gI D [(cI, .int), (cZ, .boolean), (cO, .object "java/lang/Object"), (cL, .long)] b e0 A)) (va_Qi (fun (z : Int32) (A2 : gW) => z = (sReset σ x).2 ∧ rBk cI cZ cO e0 A2 h (sReset σ x).1 ∧ gO A A2) (fun A2 t => gP D classes b A2 t.heap) (fun q => b ≤ q)) 0 0 (fun q => b ≤ q) := by
  refine Met.ofG (own := R_MB) (by decide +kernel) rfl (Nat.le_of_ble_eq_true rfl) ?_
  intro p e s m below meth c ls hx hb hr hlk hml hown hnm hts hI hl
  have hl : lv_has ls 2 [(0, .ref h), (1, .int x)] := hl
  have hS : gS b s.heap s.heap [] := va_S.rf
  obtain ⟨hP, hK⟩ := hI
  obtain ⟨ra, ia, sa, ua, aR, aI, aM, fs, fB, hLR, hLI, fS, hfs, hBu, hRs, hIs⟩ := id hB
  obtain ⟨w1, w2, w3, w4, w5, w6, w7, w8⟩ := id hw
  obtain ⟨moR, qR, capR, efR, fLR, -⟩ := id hLR
  obtain ⟨moI, qI, capI, efI, fLI, -⟩ := id hLI
  obtain ⟨hk, hv, fk, fv, fM, fK, fV, hn3, hms⟩ := id hBu
  have hQ : rBq cI cZ cO e0 A h ra ia sa ua aR aI aM fs σ := ⟨fB, hLR, hLI, fS, hfs, hBu, hRs, hIs⟩
  refine lv_iload_n hx hb d_MB_reset_0 rfl (lv_at hl 1 rfl) ?_
  refine g_ri (g_runS (As := [.int x]) (rest := []) ⟨hx, hb, hml, hown, hts⟩ (c_MB_isMock l x) st_MB_isMock k_110 ⟨rfl, rfl, by decide, by decide⟩ (gT_pre _) rfl hl.1 rfl (Nat.le_of_ble_eq_true rfl) d_MB_reset_1 ⟨by decide, by decide⟩) (fun r1 hr1 => ?_)
  subst hr1
  refine lv_if_ne (tgt := 9) hx hb d_MB_reset_4 (by decide) (fun c2 => ?_) (fun c2 => ?_)
  · skip
    rw [bI_0] at c2
    obtain ⟨mk, hmk, rfl⟩ := inR_of (M := 3) (n := 3) (by decide) (by simpa using c2 : inR x 0 3 = true)
    have hcl := nI_clamp (show mk < 2 ^ 31 by omega)
    refine lv_aload_n hx hb d_MB_reset_9 rfl (lv_at hl 0 rfl) ?_
    refine lv_iload_n hx hb d_MB_reset_10 rfl (lv_at hl 1 rfl) ?_
    refine g_cv (B := fun A2 H => gP D classes b A2 H) (g_runV (As := [.int (nI mk)]) (rest := []) ⟨hx, hb, hml, hown, hts⟩ (c_MB_endRules l hQ w1 (fun i hi => (w3 i hi).1) (by omega)) st_MB_endRules k_401 ⟨rfl, rfl, by decide, by decide⟩ rfl (gI.preV hK hS hP fB rfl _) rfl hl.1 rfl (Nat.le_of_ble_eq_true rfl) d_MB_reset_11 ⟨by decide, by decide⟩) hS (fun A3 H locs hp4 hP hS => ?_)
    replace hP : gP D classes b A3 H := hP
    refine W.widen (k := 0) (n := 0) (by decide) (by decide) ?_
    obtain ⟨hQ2, go2⟩ := hp4
    obtain ⟨fB2, -⟩ := id hQ2
    refine lv_aload_n hx hb d_MB_reset_14 rfl (lv_at hl 0 rfl) ?_
    refine lv_iload_n hx hb d_MB_reset_15 rfl (lv_at hl 1 rfl) ?_
    refine g_ci (B := fun A2 H => gP D classes b A2 H) (g_runV (As := [.int (nI mk)]) (rest := []) ⟨hx, hb, hml, hown, hts⟩ (c_MB_endInteractions l hQ2 w2 (fun i hi => (w4 i hi).1) (by omega)) st_MB_endInteractions k_405 ⟨rfl, rfl, by decide, by decide⟩ rfl (gI.preV hK hS hP fB2 rfl _) rfl hl.1 rfl (Nat.le_of_ble_eq_true rfl) d_MB_reset_16 ⟨by decide, by decide⟩) hS (fun r7 A5 H locs hp6 hP hS => ?_)
    replace hP : gP D classes b A5 H := hP
    refine W.widen (k := 0) (n := 0) (by decide) (by decide) ?_
    obtain ⟨hz3, hQ3, go3⟩ := hp6
    have e9 : sReset σ (nI mk) = (((kRs σ).map (gEndR mk), (kIs σ).map (gEndI mk), kSt σ, kBu σ, kMk σ), r7) := by unfold sReset; rw [if_pos (by simp_all), hcl, hz3]
    refine W.widen (k := 0) (n := 0) (by decide) (by decide) ?_
    exact W.iret hx hb hr (fun t ht _ => ⟨⟨_, A5, rfl, ⟨by rw [e9], by rw [e9]; exact hQ3.k, go2.trans go3⟩, show gP D classes b A5 t.heap by rw [ht]; exact hP⟩, hS.F ht⟩) hS.2.2 d_MB_reset_19
  · skip
    rw [bI_0] at c2
    refine lv_iconst (v := (-1)) hx hb d_MB_reset_7 (by decide) ?_
    have e9 : sReset σ x = (σ, -1) := by unfold sReset; rw [if_neg (by simp_all)]
    refine W.widen (k := 0) (n := 0) (by decide) (by decide) ?_
    exact W.iret hx hb hr (fun t ht _ => ⟨⟨_, A, rfl, ⟨by rw [e9], by rw [e9]; exact hB, gO.rf⟩, show gP D classes b A t.heap by rw [ht]; exact hP⟩, hS.F ht⟩) hS.2.2 d_MB_reset_8
set_option maxHeartbeats 4000000 in
set_option maxRecDepth 100000 in
theorem c_MB_verify (l : Launch) {D : va_G} {cI cZ cO cL : ClassId} {b e0 : Nat} {A : gW} {h : Nat} {σ : Bk} (hB : rBk cI cZ cO e0 A h σ) (hw : wf σ) (x y md n : Int32) : Met l y_MB_verify (Cond.code y_MB_verify b_MB_verify 7 (some .int) :: TT) ({ frames := 5, cells := 0, slots := 0, locals := 113 }) (va_Pc [.ref h, .int x, .int y, .int md, .int n] (gI D [(cI, .int), (cZ, .boolean), (cO, .object "java/lang/Object"), (cL, .long)] b e0 A)) (va_Qi (fun (z : Int32) (A2 : gW) => z = (sVerify σ x y md n).2 ∧ rBk cI cZ cO e0 A2 h (sVerify σ x y md n).1 ∧ gO A A2) (fun A2 t => gP D classes b A2 t.heap) (fun q => b ≤ q)) 0 0 (fun q => b ≤ q) := by
  refine Met.ofG (own := R_MB) (by decide +kernel) rfl (Nat.le_of_ble_eq_true rfl) ?_
  intro p e s m below meth c ls hx hb hr hlk hml hown hnm hts hI hl
  have hl : lv_has ls 7 [(0, .ref h), (1, .int x), (2, .int y), (3, .int md), (4, .int n)] := hl
  have hS : gS b s.heap s.heap [] := va_S.rf
  obtain ⟨hP, hK⟩ := hI
  obtain ⟨ra, ia, sa, ua, aR, aI, aM, fs, fB, hLR, hLI, fS, hfs, hBu, hRs, hIs⟩ := id hB
  obtain ⟨w1, w2, w3, w4, w5, w6, w7, w8⟩ := id hw
  obtain ⟨moR, qR, capR, efR, fLR, -⟩ := id hLR
  obtain ⟨moI, qI, capI, efI, fLI, -⟩ := id hLI
  obtain ⟨hk, hv, fk, fv, fM, fK, fV, hn3, hms⟩ := id hBu
  have hQ : rBq cI cZ cO e0 A h ra ia sa ua aR aI aM fs σ := ⟨fB, hLR, hLI, fS, hfs, hBu, hRs, hIs⟩
  refine lv_iload_n hx hb d_MB_verify_0 rfl (lv_at hl 1 rfl) ?_
  refine lv_iload_n hx hb d_MB_verify_1 rfl (lv_at hl 2 rfl) ?_
  refine g_ri (g_runS (As := [.int x, .int y]) (rest := []) ⟨hx, hb, hml, hown, hts⟩ (c_MB_isMethod l x y) st_MB_isMethod k_107 ⟨rfl, rfl, by decide, by decide⟩ (gT_pre _) rfl hl.1 rfl (Nat.le_of_ble_eq_true rfl) d_MB_verify_2 ⟨by decide, by decide⟩) (fun r1 hr1 => ?_)
  subst hr1
  refine lv_if_eq (tgt := 28) hx hb d_MB_verify_5 (by decide) (fun c2 => ?_) (fun c2 => ?_)
  · skip
    rw [bI_0] at c2
    refine lv_iconst (v := (-1)) hx hb d_MB_verify_28 (by decide) ?_
    have e9 : sVerify σ x y md n = (σ, -1) := by unfold sVerify; rw [if_neg (by simp_all)]
    refine W.widen (k := 0) (n := 0) (by decide) (by decide) ?_
    exact W.iret hx hb hr (fun t ht _ => ⟨⟨_, A, rfl, ⟨by rw [e9], by rw [e9]; exact hB, gO.rf⟩, show gP D classes b A t.heap by rw [ht]; exact hP⟩, hS.F ht⟩) hS.2.2 d_MB_verify_29
  · skip
    rw [bI_0] at c2
    have hin : inR x 0 3 = true ∧ inR y 0 7 = true := by simpa using c2
    obtain ⟨mk, hmk, rfl⟩ := inR_of (M := 3) (n := 3) (by decide) hin.1
    obtain ⟨mt, hmt, rfl⟩ := inR_of (M := 7) (n := 7) (by decide) hin.2
    have hc1 := nI_clamp (show mk < 2 ^ 31 by omega)
    have hc2 := nI_clamp (show mt < 2 ^ 31 by omega)
    refine lv_iload_n hx hb d_MB_verify_8 rfl (lv_at hl 3 rfl) ?_
    refine lv_iconst (v := 0) hx hb d_MB_verify_9 (by decide) ?_
    refine lv_iconst (v := 2) hx hb d_MB_verify_10 (by decide) ?_
    refine g_ri (g_runS (As := [.int md, .int 0, .int 2]) (rest := []) ⟨hx, hb, hml, hown, hts⟩ (c_MB_isWithin l md 0 2) st_MB_isWithin k_88 ⟨rfl, rfl, by decide, by decide⟩ (gT_pre _) rfl hl.1 rfl (Nat.le_of_ble_eq_true rfl) d_MB_verify_11 ⟨by decide, by decide⟩) (fun r3 hr3 => ?_)
    subst hr3
    refine lv_if_eq (tgt := 28) hx hb d_MB_verify_14 (by decide) (fun c4 => ?_) (fun c4 => ?_)
    · skip
      rw [bI_0] at c4
      refine lv_iconst (v := (-1)) hx hb d_MB_verify_28 (by decide) ?_
      have e9 : sVerify σ (nI mk) (nI mt) md n = (σ, -1) := by unfold sVerify; rw [if_neg (by simp_all)]
      refine W.widen (k := 0) (n := 0) (by decide) (by decide) ?_
      exact W.iret hx hb hr (fun t ht _ => ⟨⟨_, A, rfl, ⟨by rw [e9], by rw [e9]; exact hB, gO.rf⟩, show gP D classes b A t.heap by rw [ht]; exact hP⟩, hS.F ht⟩) hS.2.2 d_MB_verify_29
    · skip
      rw [bI_0] at c4
      refine lv_aload_n hx hb d_MB_verify_17 rfl (lv_at hl 0 rfl) ?_
      refine g_get hx hb hts i_MB hown hK.1 hP fB rfl 3 (by decide) (hts _ k_71) (fun _ h9 => h9) rfl d_MB_verify_18 ?_
      refine lv_iload_n hx hb d_MB_verify_21 rfl (lv_at hl 2 rfl) ?_
      refine g_ri (g_runV (As := [.int (nI mt)]) (rest := []) ⟨hx, hb, hml, hown, hts⟩ (c_Ma_suits l hBu (by omega)) st_Ma_suits k_113 ⟨rfl, rfl, by decide, by decide⟩ rfl (gI.preV hK hS hP fM rfl _) rfl hl.1 rfl (Nat.le_of_ble_eq_true rfl) d_MB_verify_22 ⟨by decide, by decide⟩) (fun r5 hr5 => ?_)
      subst hr5
      refine lv_if_ne (tgt := 30) hx hb d_MB_verify_25 (by decide) (fun c6 => ?_) (fun c6 => ?_)
      · skip
        rw [bI_0] at c6
        refine lv_aload_n hx hb d_MB_verify_30 rfl (lv_at hl 0 rfl) ?_
        refine lv_iload_n hx hb d_MB_verify_31 rfl (lv_at hl 1 rfl) ?_
        refine lv_iload_n hx hb d_MB_verify_32 rfl (lv_at hl 2 rfl) ?_
        refine g_ri (g_runV (As := [.int (nI mk), .int (nI mt)]) (rest := []) ⟨hx, hb, hml, hown, hts⟩ (c_MB_countSought l hB hw (by omega) (by omega)) st_MB_countSought k_361 ⟨rfl, rfl, by decide, by decide⟩ rfl (gI.preV hK hS hP fB rfl _) rfl hl.1 rfl (Nat.le_of_ble_eq_true rfl) d_MB_verify_33 ⟨by decide, by decide⟩) (fun r7 hr7 => ?_)
        subst hr7
        refine lv_istore (lv' := [(5, .int (nI (cnt (qAsk σ mk mt) (kIs σ).length))), (0, .ref h), (1, .int (nI mk)), (2, .int (nI mt)), (3, .int md), (4, .int n)]) hx hb d_MB_verify_36 hl (by decide) rfl (fun ls hl => ?_)
        refine lv_iload hx hb d_MB_verify_38 (lv_at hl 0 rfl) ?_
        refine lv_iload_n hx hb d_MB_verify_40 rfl (lv_at hl 4 rfl) ?_
        refine lv_iload hx hb d_MB_verify_41 (lv_at hl 5 rfl) ?_
        refine g_ri (g_runS (As := [.int (nI (cnt (qAsk σ mk mt) (kIs σ).length)), .int md, .int n]) (rest := []) ⟨hx, hb, hml, hown, hts⟩ (c_MB_isWanted l (nI (cnt (qAsk σ mk mt) (kIs σ).length)) md n) st_MB_isWanted k_370 ⟨rfl, rfl, by decide, by decide⟩ (gT_pre _) rfl hl.1 rfl (Nat.le_of_ble_eq_true rfl) d_MB_verify_43 ⟨by decide, by decide⟩) (fun r8 hr8 => ?_)
        subst hr8
        refine lv_istore (lv' := [(6, .int (bI (wantd (nI (cnt (qAsk σ mk mt) (kIs σ).length)) md n))), (5, .int (nI (cnt (qAsk σ mk mt) (kIs σ).length))), (0, .ref h), (1, .int (nI mk)), (2, .int (nI mt)), (3, .int md), (4, .int n)]) hx hb d_MB_verify_46 hl (by decide) rfl (fun ls hl => ?_)
        refine lv_iload hx hb d_MB_verify_48 (lv_at hl 0 rfl) ?_
        refine lv_if_eq (tgt := 59) hx hb d_MB_verify_50 (by decide) (fun c9 => ?_) (fun c9 => ?_)
        · skip
          rw [bI_0] at c9
          refine lv_aload_n hx hb d_MB_verify_59 rfl (lv_at hl 2 rfl) ?_
          refine g_get hx hb hts i_MB hown hK.1 hP fB rfl 3 (by decide) (hts _ k_71) (fun _ h9 => h9) rfl d_MB_verify_60 ?_
          refine g_cv (B := fun A2 H => gP D classes b A2 H) (g_runV (As := []) (rest := []) ⟨hx, hb, hml, hown, hts⟩ (c_Ma_clear l hBu) st_Ma_clear k_99 ⟨rfl, rfl, by decide, by decide⟩ rfl (gI.preV hK hS hP fM rfl _) rfl hl.1 rfl (Nat.le_of_ble_eq_true rfl) d_MB_verify_63 ⟨by decide, by decide⟩) hS (fun A10 H locs hp11 hP hS => ?_)
          replace hP : gP D classes b A10 H := hP
          refine W.widen (k := 0) (n := 0) (by decide) (by decide) ?_
          obtain ⟨hm4, gm4⟩ := hp11
          refine lv_iload hx hb d_MB_verify_66 (lv_at hl 0 rfl) ?_
          refine lv_if_eq (tgt := 76) hx hb d_MB_verify_68 (by decide) (fun _ => ?_) (fun h9 => absurd (by rw [bI_0]; exact c9) h9)
          refine lv_bipush (v := (-10)) hx hb d_MB_verify_76 (by decide) ?_
          refine lv_iload hx hb d_MB_verify_78 (lv_at hl 1 rfl) ?_
          refine lv_isub hx hb d_MB_verify_80 ?_
          have e9 : sVerify σ (nI mk) (nI mt) md n = ((kRs σ, kIs σ, kSt σ, [], kMk σ), (-10) - (nI (cnt (qAsk σ mk mt) (kIs σ).length))) := by unfold sVerify; rw [if_pos (by simp_all), hc1, hc2, if_pos (by simp_all), if_neg (by simp_all)]
          refine W.widen (k := 0) (n := 0) (by decide) (by decide) ?_
          exact W.iret hx hb hr (fun t ht _ => ⟨⟨_, A10, rfl, ⟨by rw [e9], by rw [e9]; exact (hQ.bu gm4 hm4).k, gm4.out rfl⟩, show gP D classes b A10 t.heap by rw [ht]; exact hP⟩, hS.F ht⟩) hS.2.2 d_MB_verify_81
        · skip
          rw [bI_0] at c9
          refine lv_aload_n hx hb d_MB_verify_53 rfl (lv_at hl 2 rfl) ?_
          refine lv_iload_n hx hb d_MB_verify_54 rfl (lv_at hl 3 rfl) ?_
          refine lv_iload_n hx hb d_MB_verify_55 rfl (lv_at hl 4 rfl) ?_
          refine g_cv (B := fun A2 H => gP D classes b A2 H) (g_runV (As := [.int (nI mk), .int (nI mt)]) (rest := []) ⟨hx, hb, hml, hown, hts⟩ (c_MB_verifySought l hQ w2 (fun i hi => (w4 i hi).1) (by omega) (by omega)) st_MB_verifySought k_373 ⟨rfl, rfl, by decide, by decide⟩ rfl (gI.preV hK hS hP fB rfl _) rfl hl.1 rfl (Nat.le_of_ble_eq_true rfl) d_MB_verify_56 ⟨by decide, by decide⟩) hS (fun A13 H locs hp14 hP hS => ?_)
          replace hP : gP D classes b A13 H := hP
          refine W.widen (k := 0) (n := 0) (by decide) (by decide) ?_
          obtain ⟨hQ2, go2⟩ := hp14
          obtain ⟨fB2, hLR2, hLI2, fS2, hfs2, hBu2, hRs2, hIs2⟩ := id hQ2
          obtain ⟨moR2, qR2, capR2, efR2, fLR2, -⟩ := id hLR2
          obtain ⟨moI2, qI2, capI2, efI2, fLI2, -⟩ := id hLI2
          obtain ⟨hk2, hv2, fk2, fv2, fM2, fK2, fV2, hn32, hms2⟩ := id hBu2
          refine lv_aload_n hx hb d_MB_verify_59 rfl (lv_at hl 2 rfl) ?_
          refine g_get hx hb hts i_MB hown hK.1 hP fB2 rfl 3 (by decide) (hts _ k_71) (fun _ h9 => h9) rfl d_MB_verify_60 ?_
          refine g_cv (B := fun A2 H => gP D classes b A2 H) (g_runV (As := []) (rest := []) ⟨hx, hb, hml, hown, hts⟩ (c_Ma_clear l hBu2) st_Ma_clear k_99 ⟨rfl, rfl, by decide, by decide⟩ rfl (gI.preV hK hS hP fM2 rfl _) rfl hl.1 rfl (Nat.le_of_ble_eq_true rfl) d_MB_verify_63 ⟨by decide, by decide⟩) hS (fun A15 H locs hp16 hP hS => ?_)
          replace hP : gP D classes b A15 H := hP
          refine W.widen (k := 0) (n := 0) (by decide) (by decide) ?_
          obtain ⟨hm4, gm4⟩ := hp16
          refine lv_iload hx hb d_MB_verify_66 (lv_at hl 0 rfl) ?_
          refine lv_if_eq (tgt := 76) hx hb d_MB_verify_68 (by decide) (fun h9 => absurd h9 (by rw [bI_0]; exact c9)) (fun _ => ?_)
          refine lv_iload hx hb d_MB_verify_71 (lv_at hl 1 rfl) ?_
          refine lv_goto (tgt := 81) hx hb d_MB_verify_73 (by decide) ?_
          have e9 : sVerify σ (nI mk) (nI mt) md n = ((kRs σ, (kIs σ).map (gVer (kBu σ) mk mt), kSt σ, [], kMk σ), nI (cnt (qAsk σ mk mt) (kIs σ).length)) := by unfold sVerify; rw [if_pos (by simp_all), hc1, hc2, if_pos (by simp_all), if_pos (by simp_all)]
          refine W.widen (k := 0) (n := 0) (by decide) (by decide) ?_
          exact W.iret hx hb hr (fun t ht _ => ⟨⟨_, A15, rfl, ⟨by rw [e9], by rw [e9]; exact (hQ2.bu gm4 hm4).k, go2.trans (gm4.out rfl)⟩, show gP D classes b A15 t.heap by rw [ht]; exact hP⟩, hS.F ht⟩) hS.2.2 d_MB_verify_81
      · skip
        rw [bI_0] at c6
        refine lv_iconst (v := (-1)) hx hb d_MB_verify_28 (by decide) ?_
        have e9 : sVerify σ (nI mk) (nI mt) md n = (σ, -1) := by unfold sVerify; rw [if_pos (by simp_all), hc1, hc2, if_neg (by simp_all)]
        refine W.widen (k := 0) (n := 0) (by decide) (by decide) ?_
        exact W.iret hx hb hr (fun t ht _ => ⟨⟨_, A, rfl, ⟨by rw [e9], by rw [e9]; exact hB, gO.rf⟩, show gP D classes b A t.heap by rw [ht]; exact hP⟩, hS.F ht⟩) hS.2.2 d_MB_verify_29
set_option maxHeartbeats 4000000 in
set_option maxRecDepth 100000 in
theorem c_MB_inOrder (l : Launch) {D : va_G} {cI cZ cO cL : ClassId} {b e0 : Nat} {A : gW} {h : Nat} {σ : Bk} (hB : rBk cI cZ cO e0 A h σ) (hw : wf σ) (x y : Int32) : Met l y_MB_inOrder (Cond.code y_MB_inOrder b_MB_inOrder 4 (some .int) :: TT) ({ frames := 5, cells := 0, slots := 0, locals := 112 }) (va_Pc [.ref h, .int x, .int y] (gI D [(cI, .int), (cZ, .boolean), (cO, .object "java/lang/Object"), (cL, .long)] b e0 A)) (va_Qi (fun (z : Int32) (A2 : gW) => z = (sInOrder σ x y).2 ∧ rBk cI cZ cO e0 A2 h (sInOrder σ x y).1 ∧ gO A A2) (fun A2 t => gP D classes b A2 t.heap) (fun q => b ≤ q)) 0 0 (fun q => b ≤ q) := by
  refine Met.ofG (own := R_MB) (by decide +kernel) rfl (Nat.le_of_ble_eq_true rfl) ?_
  intro p e s m below meth c ls hx hb hr hlk hml hown hnm hts hI hl
  have hl : lv_has ls 4 [(0, .ref h), (1, .int x), (2, .int y)] := hl
  have hS : gS b s.heap s.heap [] := va_S.rf
  obtain ⟨hP, hK⟩ := hI
  obtain ⟨ra, ia, sa, ua, aR, aI, aM, fs, fB, hLR, hLI, fS, hfs, hBu, hRs, hIs⟩ := id hB
  obtain ⟨w1, w2, w3, w4, w5, w6, w7, w8⟩ := id hw
  obtain ⟨moR, qR, capR, efR, fLR, -⟩ := id hLR
  obtain ⟨moI, qI, capI, efI, fLI, -⟩ := id hLI
  obtain ⟨hk, hv, fk, fv, fM, fK, fV, hn3, hms⟩ := id hBu
  have hQ : rBq cI cZ cO e0 A h ra ia sa ua aR aI aM fs σ := ⟨fB, hLR, hLI, fS, hfs, hBu, hRs, hIs⟩
  refine lv_iload_n hx hb d_MB_inOrder_0 rfl (lv_at hl 1 rfl) ?_
  refine lv_iload_n hx hb d_MB_inOrder_1 rfl (lv_at hl 2 rfl) ?_
  refine g_ri (g_runS (As := [.int x, .int y]) (rest := []) ⟨hx, hb, hml, hown, hts⟩ (c_MB_isMethod l x y) st_MB_isMethod k_107 ⟨rfl, rfl, by decide, by decide⟩ (gT_pre _) rfl hl.1 rfl (Nat.le_of_ble_eq_true rfl) d_MB_inOrder_2 ⟨by decide, by decide⟩) (fun r1 hr1 => ?_)
  subst hr1
  refine lv_if_eq (tgt := 19) hx hb d_MB_inOrder_5 (by decide) (fun c2 => ?_) (fun c2 => ?_)
  · skip
    rw [bI_0] at c2
    refine lv_iconst (v := (-1)) hx hb d_MB_inOrder_19 (by decide) ?_
    have e9 : sInOrder σ x y = (σ, -1) := by unfold sInOrder; rw [if_neg (by simp_all)]
    refine W.widen (k := 0) (n := 0) (by decide) (by decide) ?_
    exact W.iret hx hb hr (fun t ht _ => ⟨⟨_, A, rfl, ⟨by rw [e9], by rw [e9]; exact hB, gO.rf⟩, show gP D classes b A t.heap by rw [ht]; exact hP⟩, hS.F ht⟩) hS.2.2 d_MB_inOrder_20
  · skip
    rw [bI_0] at c2
    have hin : inR x 0 3 = true ∧ inR y 0 7 = true := by simpa using c2
    obtain ⟨mk, hmk, rfl⟩ := inR_of (M := 3) (n := 3) (by decide) hin.1
    obtain ⟨mt, hmt, rfl⟩ := inR_of (M := 7) (n := 7) (by decide) hin.2
    have hc1 := nI_clamp (show mk < 2 ^ 31 by omega)
    have hc2 := nI_clamp (show mt < 2 ^ 31 by omega)
    refine lv_aload_n hx hb d_MB_inOrder_8 rfl (lv_at hl 0 rfl) ?_
    refine g_get hx hb hts i_MB hown hK.1 hP fB rfl 3 (by decide) (hts _ k_71) (fun _ h9 => h9) rfl d_MB_inOrder_9 ?_
    refine lv_iload_n hx hb d_MB_inOrder_12 rfl (lv_at hl 2 rfl) ?_
    refine g_ri (g_runV (As := [.int (nI mt)]) (rest := []) ⟨hx, hb, hml, hown, hts⟩ (c_Ma_suits l hBu (by omega)) st_Ma_suits k_113 ⟨rfl, rfl, by decide, by decide⟩ rfl (gI.preV hK hS hP fM rfl _) rfl hl.1 rfl (Nat.le_of_ble_eq_true rfl) d_MB_inOrder_13 ⟨by decide, by decide⟩) (fun r3 hr3 => ?_)
    subst hr3
    refine lv_if_ne (tgt := 21) hx hb d_MB_inOrder_16 (by decide) (fun c4 => ?_) (fun c4 => ?_)
    · skip
      rw [bI_0] at c4
      refine lv_aload_n hx hb d_MB_inOrder_21 rfl (lv_at hl 0 rfl) ?_
      refine lv_iload_n hx hb d_MB_inOrder_22 rfl (lv_at hl 1 rfl) ?_
      refine lv_iload_n hx hb d_MB_inOrder_23 rfl (lv_at hl 2 rfl) ?_
      refine g_ri (g_runV (As := [.int (nI mk), .int (nI mt)]) (rest := []) ⟨hx, hb, hml, hown, hts⟩ (c_MB_firstSoughtAfterMark l hB hw (by omega) (by omega)) st_MB_firstSoughtAfterMark k_381 ⟨rfl, rfl, by decide, by decide⟩ rfl (gI.preV hK hS hP fB rfl _) rfl hl.1 rfl (Nat.le_of_ble_eq_true rfl) d_MB_inOrder_24 ⟨by decide, by decide⟩) (fun r5 hr5 => ?_)
      subst hr5
      refine lv_istore_n (lv' := [(3, .int (fst' (qAsk σ mk mt) ((kIs σ).length - kMk σ) (kMk σ))), (0, .ref h), (1, .int (nI mk)), (2, .int (nI mt))]) hx hb d_MB_inOrder_27 rfl hl (by decide) rfl (fun ls hl => ?_)
      refine lv_aload_n hx hb d_MB_inOrder_28 rfl (lv_at hl 1 rfl) ?_
      refine g_get hx hb hts i_MB hown hK.1 hP fB rfl 3 (by decide) (hts _ k_71) (fun _ h9 => h9) rfl d_MB_inOrder_29 ?_
      refine g_cv (B := fun A2 H => gP D classes b A2 H) (g_runV (As := []) (rest := []) ⟨hx, hb, hml, hown, hts⟩ (c_Ma_clear l hBu) st_Ma_clear k_99 ⟨rfl, rfl, by decide, by decide⟩ rfl (gI.preV hK hS hP fM rfl _) rfl hl.1 rfl (Nat.le_of_ble_eq_true rfl) d_MB_inOrder_32 ⟨by decide, by decide⟩) hS (fun A6 H locs hp7 hP hS => ?_)
      replace hP : gP D classes b A6 H := hP
      refine W.widen (k := 0) (n := 0) (by decide) (by decide) ?_
      obtain ⟨hm4, gm4⟩ := hp7
      have hQ2 := hQ.bu gm4 hm4
      obtain ⟨fB2, hLR2, hLI2, fS2, hfs2, hBu2, hRs2, hIs2⟩ := id hQ2
      replace hLI2 : rAL cO e0 A6 1 11 3 ia (kIs σ).length aI := hLI2
      obtain ⟨moI2, qI2, capI2, efI2, fLI2, -⟩ := id hLI2
      refine lv_iload_n hx hb d_MB_inOrder_35 rfl (lv_at hl 0 rfl) ?_
      refine lv_bipush (v := (-10)) hx hb d_MB_inOrder_36 (by decide) ?_
      refine lv_icmp_ne (tgt := 44) hx hb d_MB_inOrder_38 (by decide) (fun c8 => ?_) (fun c8 => ?_)
      · skip
        obtain ⟨j, hj1, hj2, hj3⟩ := (fst_or (qAsk σ mk mt) ((kIs σ).length - kMk σ) (kMk σ)).resolve_left c8
        have hcj := nI_clamp (show j < 2 ^ 31 by omega)
        rw [hj3] at hl
        refine lv_aload_n hx hb d_MB_inOrder_44 rfl (lv_at hl 1 rfl) ?_
        refine g_get hx hb hts i_MB hown hK.1 hP fB2 rfl 1 (by decide) (hts _ k_69) (fun _ h9 => h9) rfl d_MB_inOrder_45 ?_
        refine lv_iload_n hx hb d_MB_inOrder_48 rfl (lv_at hl 0 rfl) ?_
        refine g_rr (g_runV (As := [.int (nI j)]) (rest := []) ⟨hx, hb, hml, hown, hts⟩ (c_AL_get l hLI2 (i := j) (by omega)) st_AL_get k_222 ⟨rfl, rfl, by decide, by decide⟩ rfl (gI.preV hK hS hP fLI2 rfl _) rfl hl.1 rfl (Nat.le_of_ble_eq_true rfl) d_MB_inOrder_49 ⟨by decide, by decide⟩) ?_
        obtain ⟨t9, ht9⟩ : ∃ z, z = (kIs σ).getD j i0 := ⟨_, rfl⟩
        have ft9 : rIn A6 j (aI j) t9 := by rw [ht9]; exact hIs2 j (by show j < (kIs σ).length; omega)
        refine va_castY (C := R_In) hx hb hown (hts _ k_263) (hK.2.1 _ (List.mem_of_getElem? (i := 6) rfl)) (va_recv (q0 := 0) hK.1 (hP.one ft9) rfl rfl) d_MB_inOrder_52 ?_
        refine lv_iconst (v := 1) hx hb d_MB_inOrder_55 (by decide) ?_
        refine g_put (ty := .boolean) (v := .int 1) hx hb hts i_In t_In t_In_ok n_In hown hK.1 hP hS ft9 rfl 9 (by decide) (hts _ k_292) (fun _ h9 => h9) rfl (by decide +kernel) rfl rfl (Nat.le_of_ble_eq_true rfl) d_MB_inOrder_56 (fun H locs hP hS => ?_)
        obtain ⟨A10, eA10⟩ : ∃ z, z = gU A6 (11, j) ((aI j), .inr (3, [.int (nI (iMk t9)), .int (nI (iMt t9)), .int ((iX t9).1), .int ((iX t9).2.1), .int ((iX t9).2.2), .int (nI (iDp t9)), .int (iFr t9), .int (nI (iRu t9) - 1), .long (iAn t9), .int 1, .int (bI (iLv t9))])) := ⟨_, rfl⟩
        replace hP : gP D classes b A10 H := by rw [eA10]; exact hP
        have f11 : A10 (0, 0) = some (h, .inr (0, [.ref ra, .ref ia, .ref sa, .ref ua, .int (nI (kMk σ) - 1)])) := (by rw [eA10]; exact gU_n (gne (show (0 : Nat) ≠ 11 by decide)) : A10 (0, 0) = A6 (0, 0)).trans fB2
        have f12 : A10 (1, 1) = some (ia, .inr (4, [.int moI2, .ref qI2, .int (nI (kIs σ).length)])) := (by rw [eA10]; exact gU_n (gne (show (1 : Nat) ≠ 11 by decide)) : A10 (1, 1) = A6 (1, 1)).trans fLI2
        have f13 : A10 (11, j) = some ((aI j), .inr (3, [.int (nI (iMk t9)), .int (nI (iMt t9)), .int ((iX t9).1), .int ((iX t9).2.1), .int ((iX t9).2.2), .int (nI (iDp t9)), .int (iFr t9), .int (nI (iRu t9) - 1), .long (iAn t9), .int 1, .int (bI (iLv t9))])) := by rw [eA10]; exact gU_s
        have gA10 : gF [11] j A6 A10 := by rw [eA10]; exact gF_U gF.rf (by decide)
        have hQ3 := hQ2.it (i := j) (t := iVer t9) (by show j < (kIs σ).length; omega) gA10 (show rIn A10 j (aI j) _ from f13)
        refine lv_aload_n hx hb d_MB_inOrder_59 rfl (lv_at hl 1 rfl) ?_
        refine lv_iload_n hx hb d_MB_inOrder_60 rfl (lv_at hl 0 rfl) ?_
        refine g_put (ty := .int) (v := .int (nI j)) hx hb hts i_MB t_MB t_MB_ok n_MB hown hK.1 hP hS f11 rfl 4 (by decide) (hts _ k_72) (fun _ h9 => h9) rfl (by decide +kernel) rfl rfl (Nat.le_of_ble_eq_true rfl) d_MB_inOrder_61 (fun H locs hP hS => ?_)
        obtain ⟨A14, eA14⟩ : ∃ z, z = gU A10 (0, 0) (h, .inr (0, [.ref ra, .ref ia, .ref sa, .ref ua, .int (nI j)])) := ⟨_, rfl⟩
        replace hP : gP D classes b A14 H := by rw [eA14]; exact hP
        have f15 : A14 (1, 1) = some (ia, .inr (4, [.int moI2, .ref qI2, .int (nI (kIs σ).length)])) := (by rw [eA14]; exact gU_n (gne (show (1 : Nat) ≠ 0 by decide)) : A14 (1, 1) = A10 (1, 1)).trans f12
        have f16 : A14 (11, j) = some ((aI j), .inr (3, [.int (nI (iMk t9)), .int (nI (iMt t9)), .int ((iX t9).1), .int ((iX t9).2.1), .int ((iX t9).2.2), .int (nI (iDp t9)), .int (iFr t9), .int (nI (iRu t9) - 1), .long (iAn t9), .int 1, .int (bI (iLv t9))])) := (by rw [eA14]; exact gU_n (gne (show (11 : Nat) ≠ 0 by decide)) : A14 (11, j) = A10 (11, j)).trans f13
        have f17 : A14 (0, 0) = some (h, .inr (0, [.ref ra, .ref ia, .ref sa, .ref ua, .int (nI j)])) := by rw [eA14]; exact gU_s
        have gA14 : gF [0] 0 A10 A14 := by rw [eA14]; exact gF_U gF.rf (by decide)
        refine lv_iload_n hx hb d_MB_inOrder_64 rfl (lv_at hl 0 rfl) ?_
        have e9 : sInOrder σ (nI mk) (nI mt) = ((kRs σ, (kIs σ).set j (iVer t9), kSt σ, [], j + 1), nI j) := by unfold sInOrder; rw [if_pos (by simp_all), hc1, hc2, if_pos (by simp_all), hj3, if_neg (nI_n10 (by omega)), hcj, ht9]
        refine W.widen (k := 0) (n := 0) (by decide) (by decide) ?_
        exact W.iret hx hb hr (fun t ht _ => ⟨⟨_, A14, rfl, ⟨by rw [e9], by rw [e9]; exact (hQ3.ma (m := j + 1) gA14 (by rw [nI_pred]; exact f17)).k, (gm4.out rfl).trans ((gA10.out rfl).trans (gA14.out rfl))⟩, show gP D classes b A14 t.heap by rw [ht]; exact hP⟩, hS.F ht⟩) hS.2.2 d_MB_inOrder_65
      · skip
        refine lv_bipush (v := (-10)) hx hb d_MB_inOrder_41 (by decide) ?_
        have e9 : sInOrder σ (nI mk) (nI mt) = ((kRs σ, kIs σ, kSt σ, [], kMk σ), -10) := by unfold sInOrder; rw [if_pos (by simp_all), hc1, hc2, if_pos (by simp_all), if_pos (by assumption)]
        refine W.widen (k := 0) (n := 0) (by decide) (by decide) ?_
        exact W.iret hx hb hr (fun t ht _ => ⟨⟨_, A6, rfl, ⟨by rw [e9], by rw [e9]; exact hQ2.k, gm4.out rfl⟩, show gP D classes b A6 t.heap by rw [ht]; exact hP⟩, hS.F ht⟩) hS.2.2 d_MB_inOrder_43
    · skip
      rw [bI_0] at c4
      refine lv_iconst (v := (-1)) hx hb d_MB_inOrder_19 (by decide) ?_
      have e9 : sInOrder σ (nI mk) (nI mt) = (σ, -1) := by unfold sInOrder; rw [if_pos (by simp_all), hc1, hc2, if_neg (by simp_all)]
      refine W.widen (k := 0) (n := 0) (by decide) (by decide) ?_
      exact W.iret hx hb hr (fun t ht _ => ⟨⟨_, A, rfl, ⟨by rw [e9], by rw [e9]; exact hB, gO.rf⟩, show gP D classes b A t.heap by rw [ht]; exact hP⟩, hS.F ht⟩) hS.2.2 d_MB_inOrder_20
end
section
/-! A call and what it passes on: the pure function, and what stays so on the way. -/
def uAct (r : Ru) : Pr := (uAc r).getD (min (uUs r) ((uAc r).length - 1)) (0, 0)
def uUse (r : Ru) : Ru := (uMk r, uMt r, uMs r, uAc r, uUs r + 1, uLv r)
/-- what an action that doesn't pass answers -/
def ansA (k v : Int32) (x : X3) (us : Nat) : Int64 := if k = 1 then (argP x v).toInt64 else if k = 2 then (nI us).toInt64 else if k = 3 then xFAIL + v.toInt64 else v.toInt64
/-- the answer to an interaction (number i, mock mk, arguments x, depth dp, rule r1 - 1): the rules behind it, what was noted more, the answer -/
def respG (st : Nat → Bool) (inner : List Ru → Nat → Nat → Nat → X3 → Nat → Int32 → List Ru × List It × Int64) (rs : List Ru) (n1 i mk : Nat) (x : X3) (dp r1 : Nat) : List Ru × List It × Int64 :=
  if r1 = 0 then (rs, [], if st mk then xUNEX else 0)
  else if (uAct (rs.getD (r1 - 1) u0)).1 = 4 then inner (rs.set (r1 - 1) (uUse (rs.getD (r1 - 1) u0))) n1 ((uAct (rs.getD (r1 - 1) u0)).2.toNatClampNeg / 8) ((uAct (rs.getD (r1 - 1) u0)).2.toNatClampNeg % 8) x (dp + 1) (nI i)
  else (rs.set (r1 - 1) (uUse (rs.getD (r1 - 1) u0)), [], ansA (uAct (rs.getD (r1 - 1) u0)).1 (uAct (rs.getD (r1 - 1) u0)).2 x (uUs (rs.getD (r1 - 1) u0)))
/-- a call at the number n -/
def calS (st : Nat → Bool) : Nat → List Ru → Nat → Nat → Nat → X3 → Nat → Int32 → List Ru × List It × Int64
  | 0 => fun rs _ _ _ _ _ _ => (rs, [], xDEEP)
  | f + 1 => fun rs n mk mt x dp fr =>
    if 160 ≤ n then (rs, [], xDEEP) else
      ((respG st (calS st f) rs (n + 1) n mk (cut mt x) dp (ruFor rs mk mt (cut mt x))).1,
       (mk, mt, cut mt x, dp, fr, ruFor rs mk mt (cut mt x), (respG st (calS st f) rs (n + 1) n mk (cut mt x) dp (ruFor rs mk mt (cut mt x))).2.2, false, true) :: (respG st (calS st f) rs (n + 1) n mk (cut mt x) dp (ruFor rs mk mt (cut mt x))).2.1,
       (respG st (calS st f) rs (n + 1) n mk (cut mt x) dp (ruFor rs mk mt (cut mt x))).2.2)
def wfC (σ : Bk) (u : Nat) : Prop := (kRs σ).length ≤ 24 ∧ (kIs σ).length ≤ 160 ∧ (∀ i, i < (kRs σ).length → wfR ((kRs σ).getD i u0) ∧ uUs ((kRs σ).getD i u0) ≤ u) ∧ ∀ i, i < (kIs σ).length → wfI ((kIs σ).getD i i0) ∧ iRu ((kIs σ).getD i i0) ≤ (kRs σ).length
theorem wf.C {σ : Bk} (h : wf σ) : wfC σ (kIs σ).length := ⟨h.1, h.2.1, fun i hi => ⟨h.2.2.1 i hi, by rw [h.2.2.2.2.2.2.2 i hi]; exact cnt_le _ _⟩, h.2.2.2.1⟩
theorem lst_le (q : Nat → Bool) (n : Nat) : lst q n ≤ n := by
  induction n with
  | zero => exact Nat.le_refl _
  | succ k ih => unfold lst; split <;> omega
theorem ruFor_le (rs : List Ru) (mk mt : Nat) (x : X3) : ruFor rs mk mt x ≤ rs.length := lst_le _ _
theorem wfC.it {σ : Bk} {u : Nat} (h : wfC σ u) (hn : (kIs σ).length < 160) {t : It} (ht : wfI t) (hr : iRu t ≤ (kRs σ).length) : wfC (kRs σ, kIs σ ++ [t], kSt σ, kBu σ, kMk σ) u := by
  refine ⟨h.1, by show (kIs σ ++ [t]).length ≤ 160; simp; omega, h.2.2.1, fun i hi => ?_⟩
  have hi' : i < (kIs σ).length + 1 := by have h9 : i < (kIs σ ++ [t]).length := hi; simpa using h9
  show wfI ((kIs σ ++ [t]).getD i i0) ∧ iRu ((kIs σ ++ [t]).getD i i0) ≤ (kRs σ).length
  by_cases e : i = (kIs σ).length
  · rw [e, getD_r]; exact ⟨ht, hr⟩
  · rw [getD_l (by omega)]; exact h.2.2.2 i (by omega)
theorem wfC.use {σ : Bk} {u k : Nat} (h : wfC σ u) (hk : k < (kRs σ).length) (hu : u + 1 ≤ (kIs σ).length) : wfC ((kRs σ).set k (uUse ((kRs σ).getD k u0)), kIs σ, kSt σ, kBu σ, kMk σ) (kIs σ).length := by
  refine ⟨by show ((kRs σ).set k _).length ≤ 24; rw [List.length_set]; exact h.1, h.2.1, fun i hi => ?_, fun i hi => ?_⟩
  · have hi' : i < (kRs σ).length := by have h9 : i < ((kRs σ).set k (uUse ((kRs σ).getD k u0))).length := hi; rw [List.length_set] at h9; exact h9
    show wfR (((kRs σ).set k (uUse ((kRs σ).getD k u0))).getD i u0) ∧ uUs (((kRs σ).set k (uUse ((kRs σ).getD k u0))).getD i u0) ≤ (kIs σ).length
    have h2 := h.2.1
    rw [getD_set hk]
    by_cases e : i = k
    · rw [if_pos e]
      obtain ⟨⟨a1, a2, a3, a4, a5, a6, a7⟩, hu2⟩ := h.2.2.1 k hk
      exact ⟨⟨a1, a2, by show uUs ((kRs σ).getD k u0) + 1 ≤ 160; omega, a4, a5, a6, a7⟩, by show uUs ((kRs σ).getD k u0) + 1 ≤ (kIs σ).length; omega⟩
    · rw [if_neg e]
      have := h.2.2.1 i hi'
      exact ⟨this.1, by omega⟩
  · show wfI ((kIs σ).getD i i0) ∧ iRu ((kIs σ).getD i i0) ≤ ((kRs σ).set k (uUse ((kRs σ).getD k u0))).length
    rw [List.length_set]
    exact h.2.2.2 i hi
theorem set_l {α : Type} (l : List α) (x y : α) : (l ++ [x]).set l.length y = l ++ [y] := by simp
theorem set_m {α : Type} (l r : List α) (x y : α) : (l ++ [x] ++ r).set l.length y = l ++ (y :: r) := by simp
theorem getD_m {α : Type} (l r : List α) (x d : α) : (l ++ [x] ++ r).getD l.length d = x := by simp [List.getD_eq_getElem?_getD]
theorem inR_m1 (M : Int32) : inR (nI 0 - 1) 0 M = false := by
  unfold inR
  rw [show decide (nI 0 - 1 < 0) = true by decide]
  rfl
theorem uAct_ok {r : Ru} (h : wfR r) (hk : (uAct r).1 = 4) : ∃ v : Nat, v < 32 ∧ (uAct r).2 = nI v := by
  obtain ⟨-, -, -, -, -, a6, -⟩ := h
  by_cases h0 : (uAc r).length = 0
  · have e0 : uAct r = (0, 0) := by
      unfold uAct
      rw [List.length_eq_zero_iff.mp h0]
      rfl
    rw [e0] at hk
    exact absurd hk (by decide)
  · exact (a6 (min (uUs r) ((uAc r).length - 1)) (by omega)).2.2 hk
end
section
set_option maxHeartbeats 4000000 in
set_option maxRecDepth 100000 in
theorem c_MB_isRule2 (l : Launch) {D : va_G} {cI cZ cO cL : ClassId} {b e0 : Nat} {A : gW} {h ra ia sa ua n : Nat} {mv : Int32} {aR : Nat → Nat} (fB : A (0, 0) = some (h, .inr (0, [.ref ra, .ref ia, .ref sa, .ref ua, .int mv]))) (hLR : rAL cO e0 A 0 8 2 ra n aR) (x : Int32) : Met l y_MB_isRule (Cond.code y_MB_isRule b_MB_isRule 2 (some .boolean) :: TT) ({ frames := 1, cells := 0, slots := 0, locals := 22 }) (va_Pc [.ref h, .int x] (gI D [(cI, .int), (cZ, .boolean), (cO, .object "java/lang/Object"), (cL, .long)] b e0 A)) (vp_Si (fun z => z = bI (inR x 0 (nI n - 1)))) 0 0 (fun _ => False) := by
  refine Met.ofG (own := R_MB) (by decide +kernel) rfl (Nat.le_of_ble_eq_true rfl) ?_
  intro p e s m below meth c ls hx hb hr hlk hml hown hnm hts hI hl
  have hl : lv_has ls 2 [(0, .ref h), (1, .int x)] := hl
  obtain ⟨hP, hK⟩ := hI
  obtain ⟨moR, qR, capR, efR, fLR, -⟩ := id hLR
  refine lv_iload_n hx hb d_MB_isRule_0 rfl (lv_at hl 1 rfl) ?_
  refine lv_iconst (v := 0) hx hb d_MB_isRule_1 (by decide) ?_
  refine lv_aload_n hx hb d_MB_isRule_2 rfl (lv_at hl 0 rfl) ?_
  refine g_get hx hb hts i_MB hown hK.1 hP fB rfl 0 (by decide) (hts _ k_68) (fun _ h9 => h9) rfl d_MB_isRule_3 ?_
  refine g_ri (g_runV (As := []) (rest := [.int 0, .int x]) ⟨hx, hb, hml, hown, hts⟩ (c_AL_size l hLR) st_AL_size k_120 ⟨rfl, rfl, by decide, by decide⟩ rfl (gI.preV hK va_S.rf hP fLR rfl _) rfl hl.1 rfl (Nat.le_of_ble_eq_true rfl) d_MB_isRule_6 ⟨by decide, by decide⟩) (fun r1 hr1 => ?_)
  subst hr1
  refine lv_iconst (v := 1) hx hb d_MB_isRule_9 (by decide) ?_
  refine lv_isub hx hb d_MB_isRule_10 ?_
  refine g_ri (g_runS (As := [.int x, .int 0, .int ((nI n) - 1)]) (rest := []) ⟨hx, hb, hml, hown, hts⟩ (c_MB_isWithin l x 0 ((nI n) - 1)) st_MB_isWithin k_88 ⟨rfl, rfl, by decide, by decide⟩ (gT_pre _) rfl hl.1 rfl (Nat.le_of_ble_eq_true rfl) d_MB_isRule_11 ⟨by decide, by decide⟩) (fun r2 hr2 => ?_)
  subst hr2
  exact W.zret hx hb hr (bI_nar _) (fun t ht _ => ⟨_, rfl, rfl, ht⟩) (fun _ h => nomatch h) d_MB_isRule_14
set_option maxHeartbeats 4000000 in
set_option maxRecDepth 100000 in
theorem c_MB_ruleNumberFor2 (l : Launch) {D : va_G} {cI cZ cO cL : ClassId} {b e0 : Nat} {A : gW} {h ra ia sa ua : Nat} {aR aI aM : Nat → Nat} {fs : Nat → Int32} {σ : Bk} (hQ : rBq cI cZ cO e0 A h ra ia sa ua aR aI aM fs σ) (w1 : (kRs σ).length ≤ 24) (w3 : ∀ i, i < (kRs σ).length → wfR ((kRs σ).getD i u0)) {j h2 : Nat} {t : It} (hi : rIn A j h2 t) (b3 : iMk t < 4) (b4 : iMt t < 8) : Met l y_MB_ruleNumberFor (Cond.code y_MB_ruleNumberFor b_MB_ruleNumberFor 3 (some .int) :: TT) ({ frames := 4, cells := 0, slots := 0, locals := 87 }) (va_Pc [.ref h, .ref h2] (gI D [(cI, .int), (cZ, .boolean), (cO, .object "java/lang/Object"), (cL, .long)] b e0 A)) (vp_Si (fun z => z = nI (ruFor (kRs σ) (iMk t) (iMt t) (iX t)) - 1)) 0 0 (fun _ => False) := by
  refine Met.ofG (own := R_MB) (by decide +kernel) rfl (Nat.le_of_ble_eq_true rfl) ?_
  intro p e s m below meth c ls hx hb hr hlk hml hown hnm hts hI hl
  have hl : lv_has ls 3 [(0, .ref h), (1, .ref h2)] := hl
  obtain ⟨hP, hK⟩ := hI
  obtain ⟨fB, hLR, hLI, fS, hfs, hBu, hRs, hIs⟩ := id hQ
  obtain ⟨moR, qR, capR, efR, fLR, -⟩ := id hLR
  obtain ⟨moI, qI, capI, efI, fLI, -⟩ := id hLI
  obtain ⟨hk, hv, fk, fv, fM, fK, fV, hn3, hms⟩ := id hBu
  refine lv_aload_n hx hb d_MB_ruleNumberFor_0 rfl (lv_at hl 0 rfl) ?_
  refine g_get hx hb hts i_MB hown hK.1 hP fB rfl 0 (by decide) (hts _ k_68) (fun _ h9 => h9) rfl d_MB_ruleNumberFor_1 ?_
  refine g_ri (g_runV (As := []) (rest := []) ⟨hx, hb, hml, hown, hts⟩ (c_AL_size l hLR) st_AL_size k_120 ⟨rfl, rfl, by decide, by decide⟩ rfl (gI.preV hK va_S.rf hP fLR rfl _) rfl hl.1 rfl (Nat.le_of_ble_eq_true rfl) d_MB_ruleNumberFor_4 ⟨by decide, by decide⟩) (fun r1 hr1 => ?_)
  subst hr1
  refine lv_iconst (v := 1) hx hb d_MB_ruleNumberFor_7 (by decide) ?_
  refine lv_isub hx hb d_MB_ruleNumberFor_8 ?_
  refine lv_istore_n (lv' := [(2, .int ((nI (kRs σ).length) - 1)), (0, .ref h), (1, .ref h2)]) hx hb d_MB_ruleNumberFor_9 rfl hl (by decide) rfl (fun ls hl => ?_)
  obtain ⟨n, hn⟩ : ∃ z : Nat, z = (kRs σ).length := ⟨_, rfl⟩
  replace hl : lv_has ls 3 [(2, .int (nI n - 1)), (0, .ref h), (1, .ref h2)] := by rw [hn]; exact hl
  have hinv : lst (fun i => uAns ((kRs σ).getD i u0) (iMk t) (iMt t) (iX t)) n = ruFor (kRs σ) (iMk t) (iMt t) (iX t) := by rw [hn]; rfl
  have hle : n ≤ (kRs σ).length := by omega
  clear hn
  induction n generalizing ls with
  | zero =>
    refine lv_iload_n hx hb d_MB_ruleNumberFor_10 rfl (lv_at hl 0 rfl) ?_
    refine lv_if_lt (tgt := 40) hx hb d_MB_ruleNumberFor_11 (by decide) (fun _ => ?_) (fun h9 => absurd (by decide : nI 0 - 1 < 0) h9)
    refine lv_iconst (v := (-1)) hx hb d_MB_ruleNumberFor_40 (by decide) ?_
    exact W.iret hx hb hr (fun t ht _ => ⟨_, rfl, (by rw [← hinv]; show (-1 : Int32) = nI 0 - 1; decide), ht⟩) (fun _ h => nomatch h) d_MB_ruleNumberFor_41
  | succ n ih =>
    rw [nI_pred] at hl
    refine lv_iload_n hx hb d_MB_ruleNumberFor_10 rfl (lv_at hl 0 rfl) ?_
    refine lv_if_lt (tgt := 40) hx hb d_MB_ruleNumberFor_11 (by decide) (fun h9 => absurd h9 (nI_pos (show n < 2 ^ 31 by omega))) (fun _ => ?_)
    refine lv_aload_n hx hb d_MB_ruleNumberFor_14 rfl (lv_at hl 1 rfl) ?_
    refine g_get hx hb hts i_MB hown hK.1 hP fB rfl 0 (by decide) (hts _ k_68) (fun _ h9 => h9) rfl d_MB_ruleNumberFor_15 ?_
    refine lv_iload_n hx hb d_MB_ruleNumberFor_18 rfl (lv_at hl 0 rfl) ?_
    refine g_rr (g_runV (As := [.int (nI n)]) (rest := []) ⟨hx, hb, hml, hown, hts⟩ (c_AL_get l hLR (i := n) (by omega)) st_AL_get k_222 ⟨rfl, rfl, by decide, by decide⟩ rfl (gI.preV hK va_S.rf hP fLR rfl _) rfl hl.1 rfl (Nat.le_of_ble_eq_true rfl) d_MB_ruleNumberFor_19 ⟨by decide, by decide⟩) ?_
    obtain ⟨r5, hr5⟩ : ∃ z, z = (kRs σ).getD n u0 := ⟨_, rfl⟩
    have fr5 : rRu cI A n (aR n) (aM n) r5 := by rw [hr5]; exact (hRs n (by omega)).2
    have mr5 : rMa cI A n (aM n) (uMs r5) := by rw [hr5]; exact (hRs n (by omega)).1
    have br5 : wfR r5 := by rw [hr5]; exact w3 n (by omega)
    obtain ⟨br51, br52, br53, br54, br55, br56, br57⟩ := br5
    obtain ⟨hk5, hv5, fk5, fv5, fR5, fK5, fV5, hn5, hac5⟩ := id fr5
    refine va_castY (C := R_Ru) hx hb hown (hts _ k_124) (hK.2.1 _ (List.mem_of_getElem? (i := 5) rfl)) (va_recv (q0 := 0) hK.1 (hP.one fR5) rfl rfl) d_MB_ruleNumberFor_22 ?_
    refine lv_aload_n hx hb d_MB_ruleNumberFor_25 rfl (lv_at hl 2 rfl) ?_
    refine g_ri (g_runV (As := [.ref h2]) (rest := []) ⟨hx, hb, hml, hown, hts⟩ (c_Ru_answersTo l fr5 mr5 hi (by omega) (by omega) (by omega) (by omega)) st_Ru_answersTo k_322 ⟨rfl, rfl, by decide, by decide⟩ rfl (gI.preV hK va_S.rf hP fR5 rfl _) rfl hl.1 rfl (Nat.le_of_ble_eq_true rfl) d_MB_ruleNumberFor_26 ⟨by decide, by decide⟩) (fun r6 hr6 => ?_)
    subst hr6
    refine lv_if_eq (tgt := 34) hx hb d_MB_ruleNumberFor_29 (by decide) (fun c7 => ?_) (fun c7 => ?_)
    · skip
      rw [bI_0] at c7
      refine lv_iinc (v := nI n - 1) (lv' := [(2, .int (nI n - 1)), (0, .ref h), (1, .ref h2)]) hx hb d_MB_ruleNumberFor_34 hl (k := 0) rfl (dec1 _) (by decide) rfl (fun ls hl => ?_)
      refine lv_goto (tgt := 10) hx hb d_MB_ruleNumberFor_37 (by decide) ?_
      exact ih _ (lv_sub hl [0, 1, 2] rfl) (by simp_all [lst]) (by omega)
    · skip
      rw [bI_0] at c7
      refine lv_iload_n hx hb d_MB_ruleNumberFor_32 rfl (lv_at hl 0 rfl) ?_
      exact W.iret hx hb hr (fun t ht _ => ⟨_, rfl, (by rw [← hinv]; simp_all [lst, nI_pred]), ht⟩) (fun _ h => nomatch h) d_MB_ruleNumberFor_33
/-- behind a call with the outcome w: answer z, world A2 -/
def NRq (cI cZ cO : ClassId) (e0 h ra ia sa ua : Nat) (aR aI aM : Nat → Nat) (fs : Nat → Int32) (σ : Bk) (A : gW) (w : List Ru × List It × Int64) (z : Int64) (A2 : gW) : Prop := z = w.2.2 ∧ (∃ aI2 : Nat → Nat, (∀ j, j < (kIs σ).length → aI2 j = aI j) ∧ rBq cI cZ cO e0 A2 h ra ia sa ua aR aI2 aM fs (w.1, kIs σ ++ w.2.1, kSt σ, kBu σ, kMk σ)) ∧ gO A A2
abbrev rmN (f : Nat) : Room := { frames := 20 + 3 * f, cells := 2 * f, slots := 251 * f, locals := 600 + 82 * f }
abbrev rmP (f : Nat) : Room := { frames := 21 + 3 * f, cells := 2 * f, slots := 251 * f, locals := 629 + 82 * f }
abbrev rmR (f : Nat) : Room := { frames := 22 + 3 * f, cells := 2 * f, slots := 251 * f, locals := 655 + 82 * f }
/-- noteAndRespond at the depth from which f levels are left -/
def NRc (l : Launch) (D : va_G) (cI cZ cO cL : ClassId) (b e0 f : Nat) : Prop := ∀ (A : gW) (h ra ia sa ua : Nat) (aR aI aM : Nat → Nat) (fs : Nat → Int32) (σ : Bk) (mk mt dp : Nat) (xa xb xc fr : Int32), rBq cI cZ cO e0 A h ra ia sa ua aR aI aM fs σ → wfC σ (kIs σ).length → mk < 4 → mt < 8 → dp + f = 4 →
  Met l y_MB_noteAndRespond (Cond.code y_MB_noteAndRespond b_MB_noteAndRespond 10 (some .long) :: TT) (rmN f) (va_Pc [.ref h, .int (nI mk), .int (nI mt), .int xa, .int xb, .int xc, .int (nI dp), .int fr] (gI D [(cI, .int), (cZ, .boolean), (cO, .object "java/lang/Object"), (cL, .long)] b e0 A)) (va_Ql (fun (z : Int64) (A2 : gW) => NRq cI cZ cO e0 h ra ia sa ua aR aI aM fs σ A (calS (kSt σ) f (kRs σ) (kIs σ).length mk mt (xa, xb, xc) dp fr) z A2) (fun A2 t => gP D classes b A2 t.heap) (fun q => b ≤ q)) (2 * f) (251 * f) (fun q => b ≤ q)
set_option maxHeartbeats 4000000 in
set_option maxRecDepth 100000 in
theorem c_MB_pass (l : Launch) {D : va_G} {cI cZ cO cL : ClassId} {b e0 : Nat} {f : Nat} (ih : NRc l D cI cZ cO cL b e0 f) {A : gW} {h ra ia sa ua : Nat} {aR aI aM : Nat → Nat} {fs : Nat → Int32} {σ : Bk} (hQ : rBq cI cZ cO e0 A h ra ia sa ua aR aI aM fs σ) (hw : wfC σ (kIs σ).length) {i q tv dp : Nat} (hi : i < (kIs σ).length) (hq : aI i = q) (htv : tv < 32) (hdp : dp + 1 + f = 4) : Met l y_MB_pass (Cond.code y_MB_pass b_MB_pass 7 (some .long) :: TT) (rmP f) (va_Pc [.ref h, .ref q, .int (nI i), .int (nI tv), .int (nI dp)] (gI D [(cI, .int), (cZ, .boolean), (cO, .object "java/lang/Object"), (cL, .long)] b e0 A)) (va_Ql (fun (z : Int64) (A2 : gW) => NRq cI cZ cO e0 h ra ia sa ua aR aI aM fs σ A (calS (kSt σ) f (kRs σ) (kIs σ).length (tv / 8) (tv % 8) (iX ((kIs σ).getD i i0)) (dp + 1) (nI i)) z A2) (fun A2 t => gP D classes b A2 t.heap) (fun q => b ≤ q)) (2 * f) (251 * f) (fun q => b ≤ q) := by
  refine Met.ofG (own := R_MB) (by decide +kernel) rfl (Nat.le_of_ble_eq_true rfl) ?_
  intro p e s m below meth c ls hx hb hr hlk hml hown hnm hts hI hl
  have hl : lv_has ls 7 [(0, .ref h), (1, .ref q), (2, .int (nI i)), (3, .int (nI tv)), (4, .int (nI dp))] := hl
  have hS : gS b s.heap s.heap [] := va_S.rf
  obtain ⟨hP, hK⟩ := hI
  obtain ⟨fB, hLR, hLI, fS, hfs, hBu, hRs, hIs⟩ := id hQ
  obtain ⟨tt, htt⟩ : ∃ z, z = (kIs σ).getD i i0 := ⟨_, rfl⟩
  have fI : rIn A i q tt := by rw [htt, ← hq]; exact hIs i hi
  refine lv_iload_n hx hb d_MB_pass_0 rfl (lv_at hl 3 rfl) ?_
  refine lv_bipush (v := 8) hx hb d_MB_pass_1 (by decide) ?_
  refine lv_idiv hx hb d_MB_pass_3 (by decide) ?_
  rw [div8 (show tv < 2 ^ 31 by omega)]
  refine lv_istore (lv' := [(5, .int (nI (tv / 8))), (0, .ref h), (1, .ref q), (2, .int (nI i)), (3, .int (nI tv)), (4, .int (nI dp))]) hx hb d_MB_pass_4 hl (by decide) rfl (fun ls hl => ?_)
  refine lv_iload_n hx hb d_MB_pass_6 rfl (lv_at hl 4 rfl) ?_
  refine lv_bipush (v := 8) hx hb d_MB_pass_7 (by decide) ?_
  refine lv_irem hx hb d_MB_pass_9 (by decide) ?_
  rw [rem8 (show tv < 2 ^ 31 by omega)]
  refine lv_istore (lv' := [(6, .int (nI (tv % 8))), (5, .int (nI (tv / 8))), (0, .ref h), (1, .ref q), (2, .int (nI i)), (3, .int (nI tv)), (4, .int (nI dp))]) hx hb d_MB_pass_10 hl (by decide) rfl (fun ls hl => ?_)
  refine lv_aload_n hx hb d_MB_pass_12 rfl (lv_at hl 2 rfl) ?_
  refine lv_iload hx hb d_MB_pass_13 (lv_at hl 1 rfl) ?_
  refine lv_iload hx hb d_MB_pass_15 (lv_at hl 0 rfl) ?_
  refine lv_aload_n hx hb d_MB_pass_17 rfl (lv_at hl 3 rfl) ?_
  refine g_get hx hb hts i_In hown hK.1 hP fI rfl 2 (by decide) (hts _ k_278) (fun _ h9 => h9) rfl d_MB_pass_18 ?_
  refine lv_aload_n hx hb d_MB_pass_21 rfl (lv_at hl 3 rfl) ?_
  refine g_get hx hb hts i_In hown hK.1 hP fI rfl 3 (by decide) (hts _ k_280) (fun _ h9 => h9) rfl d_MB_pass_22 ?_
  refine lv_aload_n hx hb d_MB_pass_25 rfl (lv_at hl 3 rfl) ?_
  refine g_get hx hb hts i_In hown hK.1 hP fI rfl 4 (by decide) (hts _ k_282) (fun _ h9 => h9) rfl d_MB_pass_26 ?_
  refine lv_iload hx hb d_MB_pass_29 (lv_at hl 6 rfl) ?_
  refine lv_iconst (v := 1) hx hb d_MB_pass_31 (by decide) ?_
  refine lv_iadd hx hb d_MB_pass_32 ?_
  rw [nI_1]
  refine lv_iload_n hx hb d_MB_pass_33 rfl (lv_at hl 4 rfl) ?_
  have h00 : 0 + 2 * f = 2 * f := Nat.zero_add _
  refine g_cl (B := fun A2 H => gP D classes b A2 H) (g_runV (As := [.int (nI (tv / 8)), .int (nI (tv % 8)), .int ((iX tt).1), .int ((iX tt).2.1), .int ((iX tt).2.2), .int (nI (dp + 1)), .int (nI i)]) (rest := []) ⟨hx, hb, hml, hown, hts⟩ (ih A h ra ia sa ua aR aI aM fs σ (tv / 8) (tv % 8) (dp + 1) (iX tt).1 (iX tt).2.1 (iX tt).2.2 (nI i) hQ hw (by omega) (by omega) (by omega)) st_MB_noteAndRespond k_258 ⟨rfl, rfl, (by show (20 + 3 * f) + 1 ≤ 21 + 3 * f; omega), (by show 8 + (10 + 11) + (600 + 82 * f) ≤ 629 + 82 * f; omega)⟩ rfl (gI.preV hK hS hP fB rfl _) rfl hl.1 rfl (Nat.le_of_ble_eq_true rfl) d_MB_pass_34 ⟨(by show 0 + 2 * f ≤ 2 * f; omega), (by show 0 + 251 * f ≤ 251 * f; omega)⟩) hS (fun r3 A1 H locs hp2 hP hS => ?_)
  replace hP : gP D classes b A1 H := hP
  refine W.widen (k := 2 * f) (n := 251 * f) (by omega) (by omega) ?_
  refine W.widen (k := 2 * f) (n := 251 * f) (by omega) (by omega) ?_
  exact W.lret hx hb hr (fun t ht _ => ⟨⟨_, A1, rfl, (by rw [htt] at hp2; exact hp2), show gP D classes b A1 t.heap by rw [ht]; exact hP⟩, hS.F ht⟩) hS.2.2 d_MB_pass_37
end
section
set_option maxHeartbeats 4000000 in
set_option maxRecDepth 100000 in
theorem c_MB_respond (l : Launch) {D : va_G} {cI cZ cO cL : ClassId} {b e0 : Nat} {f : Nat} (ih : NRc l D cI cZ cO cL b e0 f) {A : gW} {h ra ia sa ua : Nat} {aR aI aM : Nat → Nat} {fs : Nat → Int32} {σ : Bk} (hQ : rBq cI cZ cO e0 A h ra ia sa ua aR aI aM fs σ) {u : Nat} (hw : wfC σ u) (hu : u + 1 ≤ (kIs σ).length) {i q dp : Nat} (hi : i < (kIs σ).length) (hq : aI i = q) (hdp : dp + 1 + f = 4) : Met l y_MB_respond (Cond.code y_MB_respond b_MB_respond 8 (some .long) :: TT) (rmR f) (va_Pc [.ref h, .ref q, .int (nI i), .int (nI dp)] (gI D [(cI, .int), (cZ, .boolean), (cO, .object "java/lang/Object"), (cL, .long)] b e0 A)) (va_Ql (fun (z : Int64) (A2 : gW) => NRq cI cZ cO e0 h ra ia sa ua aR aI aM fs σ A (respG (kSt σ) (calS (kSt σ) f) (kRs σ) (kIs σ).length i (iMk ((kIs σ).getD i i0)) (iX ((kIs σ).getD i i0)) dp (iRu ((kIs σ).getD i i0))) z A2) (fun A2 t => gP D classes b A2 t.heap) (fun q => b ≤ q)) (2 * f) (251 * f) (fun q => b ≤ q) := by
  refine Met.ofG (own := R_MB) (by decide +kernel) rfl (Nat.le_of_ble_eq_true rfl) ?_
  intro p e s m below meth c ls hx hb hr hlk hml hown hnm hts hI hl
  have hl : lv_has ls 8 [(0, .ref h), (1, .ref q), (2, .int (nI i)), (3, .int (nI dp))] := hl
  have hS : gS b s.heap s.heap [] := va_S.rf
  obtain ⟨hP, hK⟩ := hI
  obtain ⟨fB, hLR, hLI, fS, hfs, hBu, hRs, hIs⟩ := id hQ
  obtain ⟨moR, qR, capR, efR, fLR, -⟩ := id hLR
  obtain ⟨w1, w2, w3a, w4⟩ := id hw
  have w3 : ∀ i, i < (kRs σ).length → wfR ((kRs σ).getD i u0) := fun i hi => (w3a i hi).1
  obtain ⟨tt, htt⟩ : ∃ z, z = (kIs σ).getD i i0 := ⟨_, rfl⟩
  have fI : rIn A i q tt := by rw [htt, ← hq]; exact hIs i hi
  obtain ⟨⟨b1, b2⟩, hr1⟩ : wfI tt ∧ iRu tt ≤ (kRs σ).length := by rw [htt]; exact w4 i hi
  refine lv_aload_n hx hb d_MB_respond_0 rfl (lv_at hl 0 rfl) ?_
  refine lv_aload_n hx hb d_MB_respond_1 rfl (lv_at hl 1 rfl) ?_
  refine g_get hx hb hts i_In hown hK.1 hP fI rfl 7 (by decide) (hts _ k_288) (fun _ h9 => h9) rfl d_MB_respond_2 ?_
  rcases Nat.eq_zero_or_pos (iRu tt) with hz | hz
  · rw [hz]
    refine g_ri (g_runV (As := [.int (nI 0 - 1)]) (rest := []) ⟨hx, hb, hml, hown, hts⟩ (c_MB_isRule2 l fB hLR (nI 0 - 1)) st_MB_isRule k_218 ⟨rfl, rfl, (by show 1 + 1 ≤ 22 + 3 * f; omega), (by show 8 + (2 + 11) + (22) ≤ 655 + 82 * f; omega)⟩ rfl (gI.preV hK hS hP fB rfl _) rfl hl.1 rfl (Nat.le_of_ble_eq_true rfl) d_MB_respond_5 ⟨(by show 0 + 0 ≤ 2 * f; omega), (by show 0 + 0 ≤ 251 * f; omega)⟩) (fun r1 hr1 => ?_)
    subst hr1
    refine lv_if_ne (tgt := 31) hx hb d_MB_respond_8 (by decide) (fun h9 => absurd h9 (fun z => z (by rw [bI_0]; exact inR_m1 _))) (fun _ => ?_)
    refine lv_aload_n hx hb d_MB_respond_11 rfl (lv_at hl 0 rfl) ?_
    refine g_get hx hb hts i_MB hown hK.1 hP fB rfl 2 (by decide) (hts _ k_70) (fun _ h9 => h9) rfl d_MB_respond_12 ?_
    refine lv_aload_n hx hb d_MB_respond_15 rfl (lv_at hl 1 rfl) ?_
    refine g_get hx hb hts i_In hown hK.1 hP fI rfl 0 (by decide) (hts _ k_273) (fun _ h9 => h9) rfl d_MB_respond_16 ?_
    refine g_zald (v := bI (kSt σ (iMk tt))) hx hb hK.1 hP 1 fS rfl (vp_in_nI (show iMk tt < 4 by omega) (by omega)) (by rw [nI_clamp (show iMk tt < 2 ^ 31 by omega)]; exact hfs _ (by omega)) d_MB_respond_19 ?_
    refine lv_if_eq (tgt := 29) hx hb d_MB_respond_20 (by decide) (fun c3 => ?_) (fun c3 => ?_)
    · skip
      rw [bI_0] at c3
      refine lv_lconst (v := 0) hx hb d_MB_respond_29 (by decide) ?_
      have e9 : respG (kSt σ) (calS (kSt σ) f) (kRs σ) (kIs σ).length i (iMk tt) (iX tt) dp (iRu tt) = (kRs σ, [], if kSt σ (iMk tt) then xUNEX else 0) := by unfold respG; rw [if_pos hz]
      refine W.widen (k := 2 * f) (n := 251 * f) (by omega) (by omega) ?_
      exact W.lret hx hb hr (fun t ht _ => ⟨⟨_, A, rfl, (by show NRq cI cZ cO e0 h ra ia sa ua aR aI aM fs σ A (respG (kSt σ) (calS (kSt σ) f) (kRs σ) (kIs σ).length i (iMk ((kIs σ).getD i i0)) (iX ((kIs σ).getD i i0)) dp (iRu ((kIs σ).getD i i0))) _ _; rw [← htt, e9]; exact ⟨by simp_all [xUNEX], ⟨aI, fun _ _ => rfl, (by show rBq cI cZ cO e0 A h ra ia sa ua aR aI aM fs (kRs σ, kIs σ ++ [], kSt σ, kBu σ, kMk σ); rw [List.append_nil]; exact hQ)⟩, gO.rf⟩), show gP D classes b A t.heap by rw [ht]; exact hP⟩, hS.F ht⟩) hS.2.2 d_MB_respond_30
    · skip
      rw [bI_0] at c3
      refine lv_ldc2 (v := 20000000000) hx hb hown (hts _ k_344) d_MB_respond_23 ?_
      refine lv_goto (tgt := 30) hx hb d_MB_respond_26 (by decide) ?_
      have e9 : respG (kSt σ) (calS (kSt σ) f) (kRs σ) (kIs σ).length i (iMk tt) (iX tt) dp (iRu tt) = (kRs σ, [], if kSt σ (iMk tt) then xUNEX else 0) := by unfold respG; rw [if_pos hz]
      refine W.widen (k := 2 * f) (n := 251 * f) (by omega) (by omega) ?_
      exact W.lret hx hb hr (fun t ht _ => ⟨⟨_, A, rfl, (by show NRq cI cZ cO e0 h ra ia sa ua aR aI aM fs σ A (respG (kSt σ) (calS (kSt σ) f) (kRs σ) (kIs σ).length i (iMk ((kIs σ).getD i i0)) (iX ((kIs σ).getD i i0)) dp (iRu ((kIs σ).getD i i0))) _ _; rw [← htt, e9]; exact ⟨by simp_all [xUNEX], ⟨aI, fun _ _ => rfl, (by show rBq cI cZ cO e0 A h ra ia sa ua aR aI aM fs (kRs σ, kIs σ ++ [], kSt σ, kBu σ, kMk σ); rw [List.append_nil]; exact hQ)⟩, gO.rf⟩), show gP D classes b A t.heap by rw [ht]; exact hP⟩, hS.F ht⟩) hS.2.2 d_MB_respond_30
  · obtain ⟨k, hk1⟩ : ∃ k, iRu tt = k + 1 := ⟨iRu tt - 1, by omega⟩
    rw [hk1, nI_pred]
    refine g_ri (g_runV (As := [.int (nI k)]) (rest := []) ⟨hx, hb, hml, hown, hts⟩ (c_MB_isRule2 l fB hLR (nI k)) st_MB_isRule k_218 ⟨rfl, rfl, (by show 1 + 1 ≤ 22 + 3 * f; omega), (by show 8 + (2 + 11) + (22) ≤ 655 + 82 * f; omega)⟩ rfl (gI.preV hK hS hP fB rfl _) rfl hl.1 rfl (Nat.le_of_ble_eq_true rfl) d_MB_respond_5 ⟨(by show 0 + 0 ≤ 2 * f; omega), (by show 0 + 0 ≤ 251 * f; omega)⟩) (fun r4 hr4 => ?_)
    subst hr4
    refine lv_if_ne (tgt := 31) hx hb d_MB_respond_8 (by decide) (fun _ => ?_) (fun h9 => absurd h9 (by rw [bI_0, inN_t (by omega) (show k < (kRs σ).length by omega)]; decide))
    refine lv_aload_n hx hb d_MB_respond_31 rfl (lv_at hl 0 rfl) ?_
    refine g_get hx hb hts i_MB hown hK.1 hP fB rfl 0 (by decide) (hts _ k_68) (fun _ h9 => h9) rfl d_MB_respond_32 ?_
    refine lv_aload_n hx hb d_MB_respond_35 rfl (lv_at hl 1 rfl) ?_
    refine g_get hx hb hts i_In hown hK.1 hP fI rfl 7 (by decide) (hts _ k_288) (fun _ h9 => h9) rfl d_MB_respond_36 ?_
    rw [hk1, nI_pred]
    refine g_rr (g_runV (As := [.int (nI k)]) (rest := []) ⟨hx, hb, hml, hown, hts⟩ (c_AL_get l hLR (i := k) (by omega)) st_AL_get k_222 ⟨rfl, rfl, (by show 2 + 1 ≤ 22 + 3 * f; omega), (by show 8 + (2 + 11) + (43) ≤ 655 + 82 * f; omega)⟩ rfl (gI.preV hK hS hP fLR rfl _) rfl hl.1 rfl (Nat.le_of_ble_eq_true rfl) d_MB_respond_39 ⟨(by show 0 + 0 ≤ 2 * f; omega), (by show 0 + 0 ≤ 251 * f; omega)⟩) ?_
    obtain ⟨r7, hr7⟩ : ∃ z, z = (kRs σ).getD k u0 := ⟨_, rfl⟩
    have fr7 : rRu cI A k (aR k) (aM k) r7 := by rw [hr7]; exact (hRs k (by omega)).2
    have mr7 : rMa cI A k (aM k) (uMs r7) := by rw [hr7]; exact (hRs k (by omega)).1
    have br7 : wfR r7 := by rw [hr7]; exact w3 k (by omega)
    obtain ⟨br71, br72, br73, br74, br75, br76, br77⟩ := br7
    obtain ⟨hk7, hv7, fk7, fv7, fR7, fK7, fV7, hn7, hac7⟩ := id fr7
    refine va_castY (C := R_Ru) hx hb hown (hts _ k_124) (hK.2.1 _ (List.mem_of_getElem? (i := 5) rfl)) (va_recv (q0 := 0) hK.1 (hP.one fR7) rfl rfl) d_MB_respond_42 ?_
    refine lv_astore (lv' := [(4, .ref ((aR k))), (0, .ref h), (1, .ref q), (2, .int (nI i)), (3, .int (nI dp))]) hx hb d_MB_respond_45 hl (by decide) rfl (fun ls hl => ?_)
    refine lv_aload hx hb d_MB_respond_47 (lv_at hl 0 rfl) ?_
    refine g_get hx hb hts i_Ru hown hK.1 hP fR7 rfl 6 (by decide) (hts _ k_141) (fun _ h9 => h9) rfl d_MB_respond_49 ?_
    refine lv_istore (lv' := [(5, .int (nI (uUs r7))), (4, .ref ((aR k))), (0, .ref h), (1, .ref q), (2, .int (nI i)), (3, .int (nI dp))]) hx hb d_MB_respond_52 hl (by decide) rfl (fun ls hl => ?_)
    refine lv_aload hx hb d_MB_respond_54 (lv_at hl 1 rfl) ?_
    refine g_ri (g_runV (As := []) (rest := []) ⟨hx, hb, hml, hown, hts⟩ (c_Ru_placeInTurn l fr7 (by omega)) st_Ru_placeInTurn k_345 ⟨rfl, rfl, (by show 1 + 1 ≤ 22 + 3 * f; omega), (by show 8 + (1 + 11) + (14) ≤ 655 + 82 * f; omega)⟩ rfl (gI.preV hK hS hP fR7 rfl _) rfl hl.1 rfl (Nat.le_of_ble_eq_true rfl) d_MB_respond_56 ⟨(by show 0 + 0 ≤ 2 * f; omega), (by show 0 + 0 ≤ 251 * f; omega)⟩) (fun r8 hr8 => ?_)
    subst hr8
    refine lv_istore (lv' := [(6, .int (nI (min (uUs r7) ((uAc r7).length - 1)))), (5, .int (nI (uUs r7))), (4, .ref ((aR k))), (0, .ref h), (1, .ref q), (2, .int (nI i)), (3, .int (nI dp))]) hx hb d_MB_respond_59 hl (by decide) rfl (fun ls hl => ?_)
    refine lv_aload hx hb d_MB_respond_61 (lv_at hl 2 rfl) ?_
    refine lv_dup hx hb d_MB_respond_63 rfl ?_
    refine g_get hx hb hts i_Ru hown hK.1 hP fR7 rfl 6 (by decide) (hts _ k_141) (fun _ h9 => h9) rfl d_MB_respond_64 ?_
    refine lv_iconst (v := 1) hx hb d_MB_respond_67 (by decide) ?_
    refine lv_iadd hx hb d_MB_respond_68 ?_
    rw [nI_1]
    refine g_put (ty := .int) (v := .int (nI (uUs r7 + 1))) hx hb hts i_Ru t_Ru t_Ru_ok n_Ru hown hK.1 hP hS fR7 rfl 6 (by decide) (hts _ k_141) (fun _ h9 => h9) rfl (by decide +kernel) rfl rfl (Nat.le_of_ble_eq_true rfl) d_MB_respond_69 (fun H locs hP hS => ?_)
    obtain ⟨A9, eA9⟩ : ∃ z, z = gU A (8, k) ((aR k), .inr (2, [.int (nI (uMk r7)), .int (nI (uMt r7)), .ref ((aM k)), .ref hk7, .ref hv7, .int (nI (uAc r7).length), .int (nI (uUs r7 + 1)), .int (bI (uLv r7))])) := ⟨_, rfl⟩
    replace hP : gP D classes b A9 H := by rw [eA9]; exact hP
    have f10 : A9 (0, 0) = some (h, .inr (0, [.ref ra, .ref ia, .ref sa, .ref ua, .int (nI (kMk σ) - 1)])) := (by rw [eA9]; exact gU_n (gne (show (0 : Nat) ≠ 8 by decide)) : A9 (0, 0) = A (0, 0)).trans fB
    have f11 : A9 (1, 0) = some (ra, .inr (4, [.int moR, .ref qR, .int (nI (kRs σ).length)])) := (by rw [eA9]; exact gU_n (gne (show (1 : Nat) ≠ 8 by decide)) : A9 (1, 0) = A (1, 0)).trans fLR
    have f12 : A9 (4, 0) = some (sa, .inl (cZ, 4, .inl fs)) := (by rw [eA9]; exact gU_n (gne (show (4 : Nat) ≠ 8 by decide)) : A9 (4, 0) = A (4, 0)).trans fS
    have f13 : A9 (11, i) = some (q, .inr (3, [.int (nI (iMk tt)), .int (nI (iMt tt)), .int ((iX tt).1), .int ((iX tt).2.1), .int ((iX tt).2.2), .int (nI (iDp tt)), .int (iFr tt), .int (nI (iRu tt) - 1), .long (iAn tt), .int (bI (iVe tt)), .int (bI (iLv tt))])) := (by rw [eA9]; exact gU_n (gne (show (11 : Nat) ≠ 8 by decide)) : A9 (11, i) = A (11, i)).trans fI
    have f14 : A9 (9, k) = some (hk7, .inl (cI, 4, .inl fk7)) := (by rw [eA9]; exact gU_n (gne (show (9 : Nat) ≠ 8 by decide)) : A9 (9, k) = A (9, k)).trans fK7
    have f15 : A9 (10, k) = some (hv7, .inl (cI, 4, .inl fv7)) := (by rw [eA9]; exact gU_n (gne (show (10 : Nat) ≠ 8 by decide)) : A9 (10, k) = A (10, k)).trans fV7
    have f16 : A9 (8, k) = some ((aR k), .inr (2, [.int (nI (uMk r7)), .int (nI (uMt r7)), .ref ((aM k)), .ref hk7, .ref hv7, .int (nI (uAc r7).length), .int (nI (uUs r7 + 1)), .int (bI (uLv r7))])) := by rw [eA9]; exact gU_s
    have gA9 : gF [8, 9, 10] k A A9 := by rw [eA9]; exact gF_U gF.rf (by decide)
    have hQ1 := hQ.ru (i := k) (r := uUse r7) (by omega) gA9 (show rRu cI A9 k (aR k) (aM k) (uUse r7) from ⟨hk7, hv7, fk7, fv7, f16, f14, f15, hn7, hac7⟩) (by rw [hr7]; rfl)
    refine lv_aload hx hb d_MB_respond_72 (lv_at hl 2 rfl) ?_
    refine g_get hx hb hts i_Ru hown hK.1 hP f16 rfl 4 (by decide) (hts _ k_137) (fun _ h9 => h9) rfl d_MB_respond_74 ?_
    refine lv_iload hx hb d_MB_respond_77 (lv_at hl 0 rfl) ?_
    refine g_iald (v := (uAct r7).2) hx hb hK.1 hP 0 f15 rfl (vp_in_nI (show min (uUs r7) ((uAc r7).length - 1) < 4 by omega) (by omega)) (by rw [nI_clamp (show min (uUs r7) ((uAc r7).length - 1) < 2 ^ 31 by omega)]; exact (hac7 (min (uUs r7) ((uAc r7).length - 1)) (by omega)).2) d_MB_respond_79 ?_
    refine lv_istore (lv' := [(7, .int ((uAct r7).2)), (6, .int (nI (min (uUs r7) ((uAc r7).length - 1)))), (5, .int (nI (uUs r7))), (4, .ref ((aR k))), (0, .ref h), (1, .ref q), (2, .int (nI i)), (3, .int (nI dp))]) hx hb d_MB_respond_80 hl (by decide) rfl (fun ls hl => ?_)
    refine lv_aload hx hb d_MB_respond_82 (lv_at hl 3 rfl) ?_
    refine g_get hx hb hts i_Ru hown hK.1 hP f16 rfl 3 (by decide) (hts _ k_135) (fun _ h9 => h9) rfl d_MB_respond_84 ?_
    refine lv_iload hx hb d_MB_respond_87 (lv_at hl 1 rfl) ?_
    refine g_iald (v := (uAct r7).1) hx hb hK.1 hP 0 f14 rfl (vp_in_nI (show min (uUs r7) ((uAc r7).length - 1) < 4 by omega) (by omega)) (by rw [nI_clamp (show min (uUs r7) ((uAc r7).length - 1) < 2 ^ 31 by omega)]; exact (hac7 (min (uUs r7) ((uAc r7).length - 1)) (by omega)).1) d_MB_respond_89 ?_
    by_cases c17 : (uAct r7).1 = 1
    · refine lv_tableIn (off := 30) (tgt := 120) hx hb d_MB_respond_90 (by rw [c17]; decide) (by rw [c17]; decide) (by rw [c17]; rfl) (by decide) ?_
      refine lv_aload_n hx hb d_MB_respond_120 rfl (lv_at hl 5 rfl) ?_
      refine lv_iload hx hb d_MB_respond_121 (lv_at hl 0 rfl) ?_
      refine g_ri (g_runV (As := [.int ((uAct r7).2)]) (rest := []) ⟨hx, hb, hml, hown, hts⟩ (c_In_argument l (i := i) (t := tt) f13 ((uAct r7).2)) st_In_argument k_351 ⟨rfl, rfl, (by show 0 + 1 ≤ 22 + 3 * f; omega), (by show 8 + (2 + 11) + (0) ≤ 655 + 82 * f; omega)⟩ rfl (gI.preV hK hS hP f13 rfl _) rfl hl.1 rfl (Nat.le_of_ble_eq_true rfl) d_MB_respond_123 ⟨(by show 0 + 0 ≤ 2 * f; omega), (by show 0 + 0 ≤ 251 * f; omega)⟩) (fun r18 hr18 => ?_)
      subst hr18
      refine lv_i2l (v := (argP (iX tt) ((uAct r7).2)).toInt64) hx hb d_MB_respond_126 rfl ?_
      have e9 : respG (kSt σ) (calS (kSt σ) f) (kRs σ) (kIs σ).length i (iMk tt) (iX tt) dp (iRu tt) = ((kRs σ).set k (uUse r7), [], ansA (uAct r7).1 (uAct r7).2 (iX tt) (uUs r7)) := by unfold respG; rw [if_neg (by omega), hk1, Nat.add_sub_cancel, ← hr7, if_neg (by simp_all)]
      refine W.widen (k := 2 * f) (n := 251 * f) (by omega) (by omega) ?_
      exact W.lret hx hb hr (fun t ht _ => ⟨⟨_, A9, rfl, (by show NRq cI cZ cO e0 h ra ia sa ua aR aI aM fs σ A (respG (kSt σ) (calS (kSt σ) f) (kRs σ) (kIs σ).length i (iMk ((kIs σ).getD i i0)) (iX ((kIs σ).getD i i0)) dp (iRu ((kIs σ).getD i i0))) _ _; rw [← htt, e9]; exact ⟨by simp_all [ansA, xFAIL], ⟨aI, fun _ _ => rfl, (by show rBq cI cZ cO e0 A9 h ra ia sa ua aR aI aM fs ((kRs σ).set k (uUse r7), kIs σ ++ [], kSt σ, kBu σ, kMk σ); rw [List.append_nil]; exact hQ1)⟩, gA9.out rfl⟩), show gP D classes b A9 t.heap by rw [ht]; exact hP⟩, hS.F ht⟩) hS.2.2 d_MB_respond_127
    by_cases c19 : (uAct r7).1 = 2
    · refine lv_tableIn (off := 38) (tgt := 128) hx hb d_MB_respond_90 (by rw [c19]; decide) (by rw [c19]; decide) (by rw [c19]; rfl) (by decide) ?_
      refine lv_iload hx hb d_MB_respond_128 (lv_at hl 2 rfl) ?_
      refine lv_i2l (v := (nI (uUs r7)).toInt64) hx hb d_MB_respond_130 rfl ?_
      have e9 : respG (kSt σ) (calS (kSt σ) f) (kRs σ) (kIs σ).length i (iMk tt) (iX tt) dp (iRu tt) = ((kRs σ).set k (uUse r7), [], ansA (uAct r7).1 (uAct r7).2 (iX tt) (uUs r7)) := by unfold respG; rw [if_neg (by omega), hk1, Nat.add_sub_cancel, ← hr7, if_neg (by simp_all)]
      refine W.widen (k := 2 * f) (n := 251 * f) (by omega) (by omega) ?_
      exact W.lret hx hb hr (fun t ht _ => ⟨⟨_, A9, rfl, (by show NRq cI cZ cO e0 h ra ia sa ua aR aI aM fs σ A (respG (kSt σ) (calS (kSt σ) f) (kRs σ) (kIs σ).length i (iMk ((kIs σ).getD i i0)) (iX ((kIs σ).getD i i0)) dp (iRu ((kIs σ).getD i i0))) _ _; rw [← htt, e9]; exact ⟨by simp_all [ansA, xFAIL], ⟨aI, fun _ _ => rfl, (by show rBq cI cZ cO e0 A9 h ra ia sa ua aR aI aM fs ((kRs σ).set k (uUse r7), kIs σ ++ [], kSt σ, kBu σ, kMk σ); rw [List.append_nil]; exact hQ1)⟩, gA9.out rfl⟩), show gP D classes b A9 t.heap by rw [ht]; exact hP⟩, hS.F ht⟩) hS.2.2 d_MB_respond_131
    by_cases c20 : (uAct r7).1 = 3
    · refine lv_tableIn (off := 42) (tgt := 132) hx hb d_MB_respond_90 (by rw [c20]; decide) (by rw [c20]; decide) (by rw [c20]; rfl) (by decide) ?_
      refine lv_ldc2 (v := 40000000000) hx hb hown (hts _ k_352) d_MB_respond_132 ?_
      refine lv_iload hx hb d_MB_respond_135 (lv_at hl 0 rfl) ?_
      refine lv_i2l (v := ((uAct r7).2).toInt64) hx hb d_MB_respond_137 rfl ?_
      refine lv_ladd hx hb d_MB_respond_138 ?_
      have e9 : respG (kSt σ) (calS (kSt σ) f) (kRs σ) (kIs σ).length i (iMk tt) (iX tt) dp (iRu tt) = ((kRs σ).set k (uUse r7), [], ansA (uAct r7).1 (uAct r7).2 (iX tt) (uUs r7)) := by unfold respG; rw [if_neg (by omega), hk1, Nat.add_sub_cancel, ← hr7, if_neg (by simp_all)]
      refine W.widen (k := 2 * f) (n := 251 * f) (by omega) (by omega) ?_
      exact W.lret hx hb hr (fun t ht _ => ⟨⟨_, A9, rfl, (by show NRq cI cZ cO e0 h ra ia sa ua aR aI aM fs σ A (respG (kSt σ) (calS (kSt σ) f) (kRs σ) (kIs σ).length i (iMk ((kIs σ).getD i i0)) (iX ((kIs σ).getD i i0)) dp (iRu ((kIs σ).getD i i0))) _ _; rw [← htt, e9]; exact ⟨by simp_all [ansA, xFAIL], ⟨aI, fun _ _ => rfl, (by show rBq cI cZ cO e0 A9 h ra ia sa ua aR aI aM fs ((kRs σ).set k (uUse r7), kIs σ ++ [], kSt σ, kBu σ, kMk σ); rw [List.append_nil]; exact hQ1)⟩, gA9.out rfl⟩), show gP D classes b A9 t.heap by rw [ht]; exact hP⟩, hS.F ht⟩) hS.2.2 d_MB_respond_139
    by_cases c21 : (uAct r7).1 = 4
    · refine lv_tableIn (off := 50) (tgt := 140) hx hb d_MB_respond_90 (by rw [c21]; decide) (by rw [c21]; decide) (by rw [c21]; rfl) (by decide) ?_
      refine lv_aload_n hx hb d_MB_respond_140 rfl (lv_at hl 4 rfl) ?_
      refine lv_aload_n hx hb d_MB_respond_141 rfl (lv_at hl 5 rfl) ?_
      refine lv_iload_n hx hb d_MB_respond_142 rfl (lv_at hl 6 rfl) ?_
      refine lv_iload hx hb d_MB_respond_143 (lv_at hl 0 rfl) ?_
      refine lv_iload_n hx hb d_MB_respond_145 rfl (lv_at hl 7 rfl) ?_
      obtain ⟨tv, htv, hv4⟩ := uAct_ok (w3 k (by omega)) (by rw [← hr7]; exact c21)
      rw [← hr7] at hv4
      rw [hv4]
      have hwu : wfC ((kRs σ).set k (uUse r7), kIs σ, kSt σ, kBu σ, kMk σ) (kIs σ).length := by rw [hr7]; exact hw.use (by omega) hu
      have h00 : 0 + 2 * f = 2 * f := Nat.zero_add _
      refine g_cl (B := fun A2 H => gP D classes b A2 H) (g_runV (As := [.ref q, .int (nI i), .int (nI tv), .int (nI dp)]) (rest := []) ⟨hx, hb, hml, hown, hts⟩ (c_MB_pass l ih hQ1 hwu (i := i) (q := q) (tv := tv) (dp := dp) hi hq htv hdp) st_MB_pass k_353 ⟨rfl, rfl, (by show (21 + 3 * f) + 1 ≤ 22 + 3 * f; omega), (by show 8 + (7 + 11) + (629 + 82 * f) ≤ 655 + 82 * f; omega)⟩ rfl (gI.preV hK hS hP f10 rfl _) rfl hl.1 rfl (Nat.le_of_ble_eq_true rfl) d_MB_respond_146 ⟨(by show 0 + 2 * f ≤ 2 * f; omega), (by show 0 + 251 * f ≤ 251 * f; omega)⟩) hS (fun r24 A22 H locs hp23 hP hS => ?_)
      replace hP : gP D classes b A22 H := hP
      refine W.widen (k := 2 * f) (n := 251 * f) (by omega) (by omega) ?_
      have e9 : respG (kSt σ) (calS (kSt σ) f) (kRs σ) (kIs σ).length i (iMk tt) (iX tt) dp (iRu tt) = calS (kSt σ) f ((kRs σ).set k (uUse r7)) (kIs σ).length (tv / 8) (tv % 8) (iX tt) (dp + 1) (nI i) := by unfold respG; rw [if_neg (by omega), hk1, Nat.add_sub_cancel, ← hr7, if_pos c21, hv4, nI_clamp (show tv < 2 ^ 31 by omega)]
      rw [← htt] at hp23
      refine W.widen (k := 2 * f) (n := 251 * f) (by omega) (by omega) ?_
      exact W.lret hx hb hr (fun t ht _ => ⟨⟨_, A22, rfl, (by show NRq cI cZ cO e0 h ra ia sa ua aR aI aM fs σ A (respG (kSt σ) (calS (kSt σ) f) (kRs σ) (kIs σ).length i (iMk ((kIs σ).getD i i0)) (iX ((kIs σ).getD i i0)) dp (iRu ((kIs σ).getD i i0))) _ _; rw [← htt, e9]; exact ⟨hp23.1, hp23.2.1, (gA9.out rfl).trans hp23.2.2⟩), show gP D classes b A22 t.heap by rw [ht]; exact hP⟩, hS.F ht⟩) hS.2.2 d_MB_respond_149
    refine lv_tableOut (tgt := 150) hx hb d_MB_respond_90 (by have q0 := lv_neT c17 (show (1 : Int32).toInt = 1 by decide); have q1 := lv_neT c19 (show (2 : Int32).toInt = 2 by decide); have q2 := lv_neT c20 (show (3 : Int32).toInt = 3 by decide); have q3 := lv_neT c21 (show (4 : Int32).toInt = 4 by decide); omega) (by decide) ?_
    refine lv_iload hx hb d_MB_respond_150 (lv_at hl 0 rfl) ?_
    refine lv_i2l (v := ((uAct r7).2).toInt64) hx hb d_MB_respond_152 rfl ?_
    have e9 : respG (kSt σ) (calS (kSt σ) f) (kRs σ) (kIs σ).length i (iMk tt) (iX tt) dp (iRu tt) = ((kRs σ).set k (uUse r7), [], ansA (uAct r7).1 (uAct r7).2 (iX tt) (uUs r7)) := by unfold respG; rw [if_neg (by omega), hk1, Nat.add_sub_cancel, ← hr7, if_neg (by simp_all)]
    refine W.widen (k := 2 * f) (n := 251 * f) (by omega) (by omega) ?_
    exact W.lret hx hb hr (fun t ht _ => ⟨⟨_, A9, rfl, (by show NRq cI cZ cO e0 h ra ia sa ua aR aI aM fs σ A (respG (kSt σ) (calS (kSt σ) f) (kRs σ) (kIs σ).length i (iMk ((kIs σ).getD i i0)) (iX ((kIs σ).getD i i0)) dp (iRu ((kIs σ).getD i i0))) _ _; rw [← htt, e9]; exact ⟨by simp_all [ansA, xFAIL], ⟨aI, fun _ _ => rfl, (by show rBq cI cZ cO e0 A9 h ra ia sa ua aR aI aM fs ((kRs σ).set k (uUse r7), kIs σ ++ [], kSt σ, kBu σ, kMk σ); rw [List.append_nil]; exact hQ1)⟩, gA9.out rfl⟩), show gP D classes b A9 t.heap by rw [ht]; exact hP⟩, hS.F ht⟩) hS.2.2 d_MB_respond_153
end
section
set_option maxHeartbeats 4000000 in
set_option maxRecDepth 100000 in
theorem NR_0 (l : Launch) {D : va_G} {cI cZ cO cL : ClassId} {b e0 : Nat} : NRc l D cI cZ cO cL b e0 0 := by
  intro A h ra ia sa ua aR aI aM fs σ mk mt dp xa xb xc fr hQ hw hmk hmt hdp
  refine Met.ofG (own := R_MB) (by decide +kernel) rfl (Nat.le_of_ble_eq_true rfl) ?_
  intro p e s m below meth c ls hx hb hr hlk hml hown hnm hts hI hl
  have hl : lv_has ls 10 [(0, .ref h), (1, .int (nI mk)), (2, .int (nI mt)), (3, .int xa), (4, .int xb), (5, .int xc), (6, .int (nI dp)), (7, .int fr)] := hl
  have hS : gS b s.heap s.heap [] := va_S.rf
  obtain ⟨hP, hK⟩ := hI
  refine lv_iload hx hb d_MB_noteAndRespond_0 (lv_at hl 6 rfl) ?_
  refine lv_iconst (v := 3) hx hb d_MB_noteAndRespond_2 (by decide) ?_
  refine lv_icmp_gt (tgt := 19) hx hb d_MB_noteAndRespond_3 (by decide) (fun _ => ?_) (fun h9 => absurd (nI_lt (show 3 < dp by omega) (by omega)) h9)
  refine lv_ldc2 (v := 20000000001) hx hb hown (hts _ k_262) d_MB_noteAndRespond_19 ?_
  have e9 : calS (kSt σ) 0 (kRs σ) (kIs σ).length mk mt (xa, xb, xc) dp fr = (kRs σ, [], xDEEP) := rfl
  refine W.widen (k := 2 * 0) (n := 251 * 0) (by omega) (by omega) ?_
  exact W.lret hx hb hr (fun t ht _ => ⟨⟨_, A, rfl, (by show NRq cI cZ cO e0 h ra ia sa ua aR aI aM fs σ A (calS (kSt σ) 0 (kRs σ) (kIs σ).length mk mt (xa, xb, xc) dp fr) _ _; rw [e9]; exact ⟨rfl, ⟨aI, fun _ _ => rfl, (by show rBq cI cZ cO e0 A h ra ia sa ua aR aI aM fs (kRs σ, kIs σ ++ [], kSt σ, kBu σ, kMk σ); rw [List.append_nil]; exact hQ)⟩, gO.rf⟩), show gP D classes b A t.heap by rw [ht]; exact hP⟩, hS.F ht⟩) hS.2.2 d_MB_noteAndRespond_22
set_option maxHeartbeats 4000000 in
set_option maxRecDepth 100000 in
theorem NR_s (l : Launch) {D : va_G} {cI cZ cO cL : ClassId} {b e0 : Nat} {f : Nat} (ih : NRc l D cI cZ cO cL b e0 f) : NRc l D cI cZ cO cL b e0 (f + 1) := by
  intro A h ra ia sa ua aR aI aM fs σ mk mt dp xa xb xc fr hQ hw hmk hmt hdp
  refine Met.ofG (own := R_MB) (by decide +kernel) rfl (Nat.le_of_ble_eq_true rfl) ?_
  intro p e s m below meth c ls hx hb hr hlk hml hown hnm hts hI hl
  have hl : lv_has ls 10 [(0, .ref h), (1, .int (nI mk)), (2, .int (nI mt)), (3, .int xa), (4, .int xb), (5, .int xc), (6, .int (nI dp)), (7, .int fr)] := hl
  have hS : gS b s.heap s.heap [] := va_S.rf
  obtain ⟨hP, hK⟩ := hI
  obtain ⟨fB, hLR, hLI, fS, hfs, hBu, hRs, hIs⟩ := id hQ
  obtain ⟨moR, qR, capR, efR, fLR, -⟩ := id hLR
  obtain ⟨moI, qI, capI, efI, fLI, -⟩ := id hLI
  obtain ⟨w1, w2, w3a, w4⟩ := id hw
  have w3 : ∀ i, i < (kRs σ).length → wfR ((kRs σ).getD i u0) := fun i hi => (w3a i hi).1
  refine lv_iload hx hb d_MB_noteAndRespond_0 (lv_at hl 6 rfl) ?_
  refine lv_iconst (v := 3) hx hb d_MB_noteAndRespond_2 (by decide) ?_
  refine lv_icmp_gt (tgt := 19) hx hb d_MB_noteAndRespond_3 (by decide) (fun h9 => absurd h9 (nI_nlt (show dp ≤ 3 by omega) (by decide))) (fun _ => ?_)
  refine lv_aload_n hx hb d_MB_noteAndRespond_6 rfl (lv_at hl 0 rfl) ?_
  refine g_get hx hb hts i_MB hown hK.1 hP fB rfl 1 (by decide) (hts _ k_69) (fun _ h9 => h9) rfl d_MB_noteAndRespond_7 ?_
  refine g_ri (g_runV (As := []) (rest := []) ⟨hx, hb, hml, hown, hts⟩ (c_AL_size l hLI) st_AL_size k_120 ⟨rfl, rfl, (by show 0 + 1 ≤ 20 + 3 * (f + 1); omega), (by show 8 + (1 + 11) + (0) ≤ 600 + 82 * (f + 1); omega)⟩ rfl (gI.preV hK hS hP fLI rfl _) rfl hl.1 rfl (Nat.le_of_ble_eq_true rfl) d_MB_noteAndRespond_10 ⟨(by show 0 + 0 ≤ 2 * (f + 1); omega), (by show 0 + 0 ≤ 251 * (f + 1); omega)⟩) (fun r2 hr2 => ?_)
  subst hr2
  refine lv_sipush (v := 160) hx hb d_MB_noteAndRespond_13 (by decide) ?_
  refine lv_icmp_lt (tgt := 23) hx hb d_MB_noteAndRespond_16 (by decide) (fun c3 => ?_) (fun c3 => ?_)
  · skip
    replace c3 : (kIs σ).length < 160 := (nI_ltI (a := (kIs σ).length) (b := 160) (by omega) (by decide)).mp c3
    refine lv_aload_n hx hb d_MB_noteAndRespond_23 rfl (lv_at hl 0 rfl) ?_
    refine g_get hx hb hts i_MB hown hK.1 hP fB rfl 1 (by decide) (hts _ k_69) (fun _ h9 => h9) rfl d_MB_noteAndRespond_24 ?_
    refine g_ri (g_runV (As := []) (rest := []) ⟨hx, hb, hml, hown, hts⟩ (c_AL_size l hLI) st_AL_size k_120 ⟨rfl, rfl, (by show 0 + 1 ≤ 20 + 3 * (f + 1); omega), (by show 8 + (1 + 11) + (0) ≤ 600 + 82 * (f + 1); omega)⟩ rfl (gI.preV hK hS hP fLI rfl _) rfl hl.1 rfl (Nat.le_of_ble_eq_true rfl) d_MB_noteAndRespond_27 ⟨(by show 0 + 0 ≤ 2 * (f + 1); omega), (by show 0 + 0 ≤ 251 * (f + 1); omega)⟩) (fun r4 hr4 => ?_)
    subst hr4
    refine lv_istore (lv' := [(8, .int (nI (kIs σ).length)), (0, .ref h), (1, .int (nI mk)), (2, .int (nI mt)), (3, .int xa), (4, .int xb), (5, .int xc), (6, .int (nI dp)), (7, .int fr)]) hx hb d_MB_noteAndRespond_30 hl (by decide) rfl (fun ls hl => ?_)
    refine g_new (ci := 3) (fs := [.int 0, .int 0, .int 0, .int 0, .int 0, .int 0, .int 0, .int 0, .long 0, .int 0, .int 0]) hx hb hts i_In t_In t_In_ok hown (hts _ k_263) (hts _ k_264) (hts _ k_14) hK.1 hP hS (11, (kIs σ).length) rfl (fun j hj => by rcases (show j = 0 ∨ j = 1 ∨ j = 2 ∨ j = 3 ∨ j = 4 ∨ j = 5 ∨ j = 6 ∨ j = 7 ∨ j = 8 ∨ j = 9 ∨ j = 10 by omega) with rfl | rfl | rfl | rfl | rfl | rfl | rfl | rfl | rfl | rfl | rfl <;> rfl) (by show 0 + 1 ≤ 2 * (f + 1); omega) (by show 0 + 11 ≤ 251 * (f + 1); omega) d_MB_noteAndRespond_32 (fun q5 H hP hS => ?_)
    refine W.widen (k := 1) (n := 11) (by omega) (by omega) ?_
    obtain ⟨A6, eA6⟩ : ∃ z, z = gU A (11, (kIs σ).length) (q5, .inr (3, [.int 0, .int 0, .int 0, .int 0, .int 0, .int 0, .int 0, .int 0, .long 0, .int 0, .int 0])) := ⟨_, rfl⟩
    replace hP : gP D classes b A6 H := by rw [eA6]; exact hP
    have f7 : A6 (0, 0) = some (h, .inr (0, [.ref ra, .ref ia, .ref sa, .ref ua, .int (nI (kMk σ) - 1)])) := (by rw [eA6]; exact gU_n (gne (show (0 : Nat) ≠ 11 by decide)) : A6 (0, 0) = A (0, 0)).trans fB
    have f8 : A6 (1, 1) = some (ia, .inr (4, [.int moI, .ref qI, .int (nI (kIs σ).length)])) := (by rw [eA6]; exact gU_n (gne (show (1 : Nat) ≠ 11 by decide)) : A6 (1, 1) = A (1, 1)).trans fLI
    have f9 : A6 (11, (kIs σ).length) = some (q5, .inr (3, [.int 0, .int 0, .int 0, .int 0, .int 0, .int 0, .int 0, .int 0, .long 0, .int 0, .int 0])) := by rw [eA6]; exact gU_s
    have gA6 : gF [11] ((kIs σ).length) A A6 := by rw [eA6]; exact gF_U gF.rf (by decide)
    refine lv_dup hx hb d_MB_noteAndRespond_35 rfl ?_
    refine lv_iload_n hx hb d_MB_noteAndRespond_36 rfl (lv_at hl 2 rfl) ?_
    refine lv_iload_n hx hb d_MB_noteAndRespond_37 rfl (lv_at hl 3 rfl) ?_
    refine lv_iload_n hx hb d_MB_noteAndRespond_38 rfl (lv_at hl 4 rfl) ?_
    refine lv_iload hx hb d_MB_noteAndRespond_39 (lv_at hl 5 rfl) ?_
    refine lv_iload hx hb d_MB_noteAndRespond_41 (lv_at hl 6 rfl) ?_
    refine lv_iload hx hb d_MB_noteAndRespond_43 (lv_at hl 7 rfl) ?_
    refine lv_iload hx hb d_MB_noteAndRespond_45 (lv_at hl 8 rfl) ?_
    refine g_cv (B := fun A2 H => gP D classes b A2 H) (g_runI (b := q5) (As := [.int (nI mk), .int (nI mt), .int xa, .int xb, .int xc, .int (nI dp), .int fr]) (rest := [.ref q5]) ⟨hx, hb, hml, hown, hts⟩ (c_In_init l f9 hmt xa xb xc dp fr) st_In_init k_265 ⟨rfl, rfl, (by show 1 + 1 ≤ 20 + 3 * (f + 1); omega), (by show 8 + (9 + 11) + (20) ≤ 600 + 82 * (f + 1); omega)⟩ (gI.pre hK hS hP _) rfl hl.1 rfl (Nat.le_of_ble_eq_true rfl) d_MB_noteAndRespond_47 ⟨(by show 1 + 0 ≤ 2 * (f + 1); omega), (by show 11 + 0 ≤ 251 * (f + 1); omega)⟩) hS (fun A10 H locs hp11 hP hS => ?_)
    replace hP : gP D classes b A10 H := hP
    refine W.widen (k := 1) (n := 11) (by omega) (by omega) ?_
    obtain ⟨ht0, gI0⟩ := hp11
    have gI1 : gF [11] (kIs σ).length A A10 := gA6.trans gI0
    have f12 : A10 (0, 0) = some (h, .inr (0, [.ref ra, .ref ia, .ref sa, .ref ua, .int (nI (kMk σ) - 1)])) := (gI0.at (n := 0) (j := 0) (by decide)).trans f7
    have f13 : A10 (1, 1) = some (ia, .inr (4, [.int moI, .ref qI, .int (nI (kIs σ).length)])) := (gI0.at (n := 1) (j := 1) (by decide)).trans f8
    obtain ⟨t0, et0⟩ : ∃ z : It, z = (mk, mt, cut mt (xa, xb, xc), dp, fr, 0, xNONE, false, true) := ⟨_, rfl⟩
    rw [← et0] at ht0
    have hLI2 : rAL cO e0 A10 1 11 3 ia (kIs σ).length aI := hLI.keep' (gI1.at rfl) (gI1.at rfl) (gI1.at rfl) (fun i hi => gI1.at2 (Nat.ne_of_lt hi))
    refine lv_astore (lv' := [(9, .ref q5), (8, .int (nI (kIs σ).length)), (0, .ref h), (1, .int (nI mk)), (2, .int (nI mt)), (3, .int xa), (4, .int xb), (5, .int xc), (6, .int (nI dp)), (7, .int fr)]) hx hb d_MB_noteAndRespond_50 hl (by decide) rfl (fun ls hl => ?_)
    refine lv_aload_n hx hb d_MB_noteAndRespond_52 rfl (lv_at hl 2 rfl) ?_
    refine g_get hx hb hts i_MB hown hK.1 hP f12 rfl 1 (by decide) (hts _ k_69) (fun _ h9 => h9) rfl d_MB_noteAndRespond_53 ?_
    refine lv_aload hx hb d_MB_noteAndRespond_56 (lv_at hl 0 rfl) ?_
    refine g_ci (B := fun A2 H => gP D classes b A2 H) (g_runV (As := [.ref q5]) (rest := []) ⟨hx, hb, hml, hown, hts⟩ (c_AL_add l hLI2 (by omega) (by decide) (Or.inr rfl) ht0) st_AL_add k_161 ⟨rfl, rfl, (by show 6 + 1 ≤ 20 + 3 * (f + 1); omega), (by show 8 + (2 + 11) + (150) ≤ 600 + 82 * (f + 1); omega)⟩ rfl (gI.preV hK hS hP f13 rfl _) rfl hl.1 rfl (Nat.le_of_ble_eq_true rfl) d_MB_noteAndRespond_58 ⟨(by show 1 + 1 ≤ 2 * (f + 1); omega), (by show 11 + 240 ≤ 251 * (f + 1); omega)⟩) hS (fun r16 A14 H locs hp15 hP hS => ?_)
    replace hP : gP D classes b A14 H := hP
    refine W.widen (k := 2) (n := 251) (by omega) (by omega) ?_
    obtain ⟨hL3, gL3⟩ := hp15
    have hQ1 := hQ.ai gI1 gL3 hL3 ht0
    have ht3 : rIn A14 (kIs σ).length q5 t0 := ht0.keep (gL3.at rfl)
    obtain ⟨fB1, -⟩ := id hQ1
    refine lv_pop hx hb d_MB_noteAndRespond_61 rfl ?_
    refine lv_aload hx hb d_MB_noteAndRespond_62 (lv_at hl 0 rfl) ?_
    refine lv_aload_n hx hb d_MB_noteAndRespond_64 rfl (lv_at hl 2 rfl) ?_
    refine lv_aload hx hb d_MB_noteAndRespond_65 (lv_at hl 0 rfl) ?_
    obtain ⟨r1, er1⟩ : ∃ z : Nat, z = ruFor (kRs σ) (iMk t0) (iMt t0) (iX t0) := ⟨_, rfl⟩
    refine g_ri (g_runV (As := [.ref q5]) (rest := [.ref q5]) ⟨hx, hb, hml, hown, hts⟩ (c_MB_ruleNumberFor2 l hQ1 w1 w3 ht3 (by rw [et0]; exact hmk) (by rw [et0]; exact hmt)) st_MB_ruleNumberFor k_318 ⟨rfl, rfl, (by show 4 + 1 ≤ 20 + 3 * (f + 1); omega), (by show 8 + (3 + 11) + (87) ≤ 600 + 82 * (f + 1); omega)⟩ rfl (gI.preV hK hS hP fB1 rfl _) rfl hl.1 rfl (Nat.le_of_ble_eq_true rfl) d_MB_noteAndRespond_67 ⟨(by show 2 + 0 ≤ 2 * (f + 1); omega), (by show 251 + 0 ≤ 251 * (f + 1); omega)⟩) (fun r17 hr17 => ?_)
    replace hr17 : r17 = nI r1 - 1 := by rw [er1]; exact hr17
    rw [hr17]
    refine g_put (ty := .int) (v := .int (nI r1 - 1)) hx hb hts i_In t_In t_In_ok n_In hown hK.1 hP hS ht3 rfl 7 (by decide) (hts _ k_288) (fun _ h9 => h9) rfl (by decide +kernel) rfl rfl (Nat.le_of_ble_eq_true rfl) d_MB_noteAndRespond_70 (fun H locs hP hS => ?_)
    obtain ⟨A18, eA18⟩ : ∃ z, z = gU A14 (11, (kIs σ).length) (q5, .inr (3, [.int (nI (iMk t0)), .int (nI (iMt t0)), .int ((iX t0).1), .int ((iX t0).2.1), .int ((iX t0).2.2), .int (nI (iDp t0)), .int (iFr t0), .int (nI r1 - 1), .long (iAn t0), .int (bI (iVe t0)), .int (bI (iLv t0))])) := ⟨_, rfl⟩
    replace hP : gP D classes b A18 H := by rw [eA18]; exact hP
    have f19 : A18 (0, 0) = some (h, .inr (0, [.ref ra, .ref ia, .ref sa, .ref ua, .int (nI (kMk σ) - 1)])) := (by rw [eA18]; exact gU_n (gne (show (0 : Nat) ≠ 11 by decide)) : A18 (0, 0) = A14 (0, 0)).trans fB1
    have f20 : A18 (11, (kIs σ).length) = some (q5, .inr (3, [.int (nI (iMk t0)), .int (nI (iMt t0)), .int ((iX t0).1), .int ((iX t0).2.1), .int ((iX t0).2.2), .int (nI (iDp t0)), .int (iFr t0), .int (nI r1 - 1), .long (iAn t0), .int (bI (iVe t0)), .int (bI (iLv t0))])) := by rw [eA18]; exact gU_s
    have gA18 : gF [11] ((kIs σ).length) A14 A18 := by rw [eA18]; exact gF_U gF.rf (by decide)
    obtain ⟨t1, et1⟩ : ∃ z : It, z = (mk, mt, cut mt (xa, xb, xc), dp, fr, r1, xNONE, false, true) := ⟨_, rfl⟩
    have ht4 : rIn A18 (kIs σ).length q5 t1 := by have e7 := f20; rw [et0] at e7; rw [et1]; exact e7
    have hQ2 : rBq cI cZ cO e0 A18 h ra ia sa ua aR (va_up aI (kIs σ).length q5) aM fs (kRs σ, kIs σ ++ [t1], kSt σ, kBu σ, kMk σ) := by
      have e8 : rBq cI cZ cO e0 A18 h ra ia sa ua aR (va_up aI (kIs σ).length q5) aM fs (kRs σ, (kIs σ ++ [t0]).set (kIs σ).length t1, kSt σ, kBu σ, kMk σ) := hQ1.it (i := (kIs σ).length) (t := t1) (by show (kIs σ).length < (kIs σ ++ [t0]).length; simp) gA18 (by rw [show va_up aI (kIs σ).length q5 (kIs σ).length = q5 from if_pos rfl]; exact ht4)
      rw [set_l] at e8
      exact e8
    have hw2 : wfC (kRs σ, kIs σ ++ [t1], kSt σ, kBu σ, kMk σ) (kIs σ).length := hw.it (by omega) (by rw [et1]; exact ⟨hmk, hmt⟩) (by rw [et1]; show r1 ≤ _; rw [er1]; exact ruFor_le _ _ _ _)
    obtain ⟨fB4, -⟩ := id hQ2
    refine lv_aload hx hb d_MB_noteAndRespond_73 (lv_at hl 0 rfl) ?_
    refine lv_aload_n hx hb d_MB_noteAndRespond_75 rfl (lv_at hl 2 rfl) ?_
    refine lv_aload hx hb d_MB_noteAndRespond_76 (lv_at hl 0 rfl) ?_
    refine lv_iload hx hb d_MB_noteAndRespond_78 (lv_at hl 1 rfl) ?_
    refine lv_iload hx hb d_MB_noteAndRespond_80 (lv_at hl 8 rfl) ?_
    refine g_cl (B := fun A2 H => gP D classes b A2 H) (g_runV (As := [.ref q5, .int (nI (kIs σ).length), .int (nI dp)]) (rest := [.ref q5]) ⟨hx, hb, hml, hown, hts⟩ (c_MB_respond l ih hQ2 (u := (kIs σ).length) hw2 (by show _ ≤ (kIs σ ++ [t1]).length; simp) (i := (kIs σ).length) (q := q5) (dp := dp) (by show (kIs σ).length < (kIs σ ++ [t1]).length; simp) (if_pos rfl) (by omega)) st_MB_respond k_340 ⟨rfl, rfl, (by show (22 + 3 * f) + 1 ≤ 20 + 3 * (f + 1); omega), (by show 8 + (8 + 11) + (655 + 82 * f) ≤ 600 + 82 * (f + 1); omega)⟩ rfl (gI.preV hK hS hP fB4 rfl _) rfl hl.1 rfl (Nat.le_of_ble_eq_true rfl) d_MB_noteAndRespond_82 ⟨(by show 2 + 2 * f ≤ 2 * (f + 1); omega), (by show 251 + 251 * f ≤ 251 * (f + 1); omega)⟩) hS (fun r23 A21 H locs hp22 hP hS => ?_)
    replace hP : gP D classes b A21 H := hP
    refine W.widen (k := (2 + 2 * f)) (n := (251 + 251 * f)) (by omega) (by omega) ?_
    obtain ⟨Z, eZ⟩ : ∃ z, z = respG (kSt σ) (calS (kSt σ) f) (kRs σ) ((kIs σ).length + 1) (kIs σ).length mk (cut mt (xa, xb, xc)) dp (ruFor (kRs σ) mk mt (cut mt (xa, xb, xc))) := ⟨_, rfl⟩
    have eR : respG (kSt σ) (calS (kSt σ) f) (kRs σ) (kIs σ ++ [t1]).length (kIs σ).length (iMk ((kIs σ ++ [t1]).getD (kIs σ).length i0)) (iX ((kIs σ ++ [t1]).getD (kIs σ).length i0)) dp (iRu ((kIs σ ++ [t1]).getD (kIs σ).length i0)) = Z := by rw [getD_r, List.length_append, et1, er1, et0, eZ]; rfl
    obtain ⟨hz, ⟨aI5, haI5, hQ5⟩, go5⟩ : NRq cI cZ cO e0 h ra ia sa ua aR (va_up aI (kIs σ).length q5) aM fs (kRs σ, kIs σ ++ [t1], kSt σ, kBu σ, kMk σ) A18 Z r23 A21 := by rw [← eR]; exact hp22
    have hq5 : aI5 (kIs σ).length = q5 := (haI5 (kIs σ).length (by show (kIs σ).length < (kIs σ ++ [t1]).length; simp)).trans (if_pos rfl)
    have ht5 : rIn A21 (kIs σ).length q5 t1 := by have e7 := hQ5.2.2.2.2.2.2.2 (kIs σ).length (by show (kIs σ).length < (kIs σ ++ [t1] ++ Z.2.1).length; simp only [List.length_append, List.length_singleton]; omega); rw [hq5] at e7; rw [show t1 = (kIs σ ++ [t1] ++ Z.2.1).getD (kIs σ).length i0 from (getD_m _ _ _ _).symm]; exact e7
    refine g_put (ty := .long) (v := .long r23) hx hb hts i_In t_In t_In_ok n_In hown hK.1 hP hS ht5 rfl 8 (by decide) (hts _ k_290) (fun _ h9 => h9) rfl (by decide +kernel) rfl rfl (Nat.le_of_ble_eq_true rfl) d_MB_noteAndRespond_85 (fun H locs hP hS => ?_)
    obtain ⟨A24, eA24⟩ : ∃ z, z = gU A21 (11, (kIs σ).length) (q5, .inr (3, [.int (nI (iMk t1)), .int (nI (iMt t1)), .int ((iX t1).1), .int ((iX t1).2.1), .int ((iX t1).2.2), .int (nI (iDp t1)), .int (iFr t1), .int (nI (iRu t1) - 1), .long r23, .int (bI (iVe t1)), .int (bI (iLv t1))])) := ⟨_, rfl⟩
    replace hP : gP D classes b A24 H := by rw [eA24]; exact hP
    have f25 : A24 (11, (kIs σ).length) = some (q5, .inr (3, [.int (nI (iMk t1)), .int (nI (iMt t1)), .int ((iX t1).1), .int ((iX t1).2.1), .int ((iX t1).2.2), .int (nI (iDp t1)), .int (iFr t1), .int (nI (iRu t1) - 1), .long r23, .int (bI (iVe t1)), .int (bI (iLv t1))])) := by rw [eA24]; exact gU_s
    have gA24 : gF [11] ((kIs σ).length) A21 A24 := by rw [eA24]; exact gF_U gF.rf (by decide)
    refine lv_aload hx hb d_MB_noteAndRespond_88 (lv_at hl 0 rfl) ?_
    refine g_get hx hb hts i_In hown hK.1 hP f25 rfl 8 (by decide) (hts _ k_290) (fun _ h9 => h9) rfl d_MB_noteAndRespond_90 ?_
    have e9 : calS (kSt σ) (f + 1) (kRs σ) (kIs σ).length mk mt (xa, xb, xc) dp fr = (Z.1, (mk, mt, cut mt (xa, xb, xc), dp, fr, ruFor (kRs σ) mk mt (cut mt (xa, xb, xc)), Z.2.2, false, true) :: Z.2.1, Z.2.2) := by show (if 160 ≤ (kIs σ).length then _ else _) = _; rw [if_neg (by omega), ← eZ]
    obtain ⟨t2, et2⟩ : ∃ z : It, z = (mk, mt, cut mt (xa, xb, xc), dp, fr, ruFor (kRs σ) mk mt (cut mt (xa, xb, xc)), Z.2.2, false, true) := ⟨_, rfl⟩
    have ht6 : rIn A24 (kIs σ).length q5 t2 := by have e7 := f25; rw [et1, er1, et0, hz] at e7; rw [et2]; exact e7
    have hQ6 : rBq cI cZ cO e0 A24 h ra ia sa ua aR aI5 aM fs (Z.1, kIs σ ++ (t2 :: Z.2.1), kSt σ, kBu σ, kMk σ) := by
      have e8 : rBq cI cZ cO e0 A24 h ra ia sa ua aR aI5 aM fs (Z.1, (kIs σ ++ [t1] ++ Z.2.1).set (kIs σ).length t2, kSt σ, kBu σ, kMk σ) := hQ5.it (i := (kIs σ).length) (t := t2) (by show (kIs σ).length < (kIs σ ++ [t1] ++ Z.2.1).length; simp only [List.length_append, List.length_singleton]; omega) gA24 (by rw [hq5]; exact ht6)
      rw [set_m] at e8
      exact e8
    refine W.widen (k := 2 * (f + 1)) (n := 251 * (f + 1)) (by omega) (by omega) ?_
    exact W.lret hx hb hr (fun t ht _ => ⟨⟨_, A24, rfl, (by show NRq cI cZ cO e0 h ra ia sa ua aR aI aM fs σ A (calS (kSt σ) (f + 1) (kRs σ) (kIs σ).length mk mt (xa, xb, xc) dp fr) _ _; rw [e9]; rw [← et2]; exact ⟨hz, ⟨aI5, fun j hj => (haI5 j (by show j < (kIs σ ++ [t1]).length; simp; omega)).trans (if_neg (by omega)), hQ6⟩, (gI1.out rfl).trans ((gL3.out rfl).trans ((gA18.out rfl).trans (go5.trans (gA24.out rfl))))⟩), show gP D classes b A24 t.heap by rw [ht]; exact hP⟩, hS.F ht⟩) hS.2.2 d_MB_noteAndRespond_93
  · skip
    replace c3 : ¬ (kIs σ).length < 160 := fun q => c3 ((nI_ltI (a := (kIs σ).length) (b := 160) (by omega) (by decide)).mpr q)
    refine lv_ldc2 (v := 20000000001) hx hb hown (hts _ k_262) d_MB_noteAndRespond_19 ?_
    have e9 : calS (kSt σ) (f + 1) (kRs σ) (kIs σ).length mk mt (xa, xb, xc) dp fr = (kRs σ, [], xDEEP) := by show (if 160 ≤ (kIs σ).length then _ else _) = _; rw [if_pos (by omega)]
    refine W.widen (k := 2 * (f + 1)) (n := 251 * (f + 1)) (by omega) (by omega) ?_
    exact W.lret hx hb hr (fun t ht _ => ⟨⟨_, A, rfl, (by show NRq cI cZ cO e0 h ra ia sa ua aR aI aM fs σ A (calS (kSt σ) (f + 1) (kRs σ) (kIs σ).length mk mt (xa, xb, xc) dp fr) _ _; rw [e9]; exact ⟨rfl, ⟨aI, fun _ _ => rfl, (by show rBq cI cZ cO e0 A h ra ia sa ua aR aI aM fs (kRs σ, kIs σ ++ [], kSt σ, kBu σ, kMk σ); rw [List.append_nil]; exact hQ)⟩, gO.rf⟩), show gP D classes b A t.heap by rw [ht]; exact hP⟩, hS.F ht⟩) hS.2.2 d_MB_noteAndRespond_22
theorem NR_all (l : Launch) {D : va_G} {cI cZ cO cL : ClassId} {b e0 : Nat} (f : Nat) : NRc l D cI cZ cO cL b e0 f := by
  induction f with
  | zero => exact NR_0 l
  | succ f ih => exact NR_s l ih
end
section
def sCall (σ : Bk) (m t xa xb xc : Int32) : Bk × Int64 := if inR m 0 3 && inR t 0 7 then (if 160 ≤ (kIs σ).length then (σ, xNONE) else (((calS (kSt σ) 4 (kRs σ) (kIs σ).length m.toNatClampNeg t.toNatClampNeg (xa, xb, xc) 0 (-1)).1, kIs σ ++ (calS (kSt σ) 4 (kRs σ) (kIs σ).length m.toNatClampNeg t.toNatClampNeg (xa, xb, xc) 0 (-1)).2.1, kSt σ, kBu σ, kMk σ), (calS (kSt σ) 4 (kRs σ) (kIs σ).length m.toNatClampNeg t.toNatClampNeg (xa, xb, xc) 0 (-1)).2.2)) else (σ, xNONE)
set_option maxHeartbeats 4000000 in
set_option maxRecDepth 100000 in
theorem c_MB_call (l : Launch) {D : va_G} {cI cZ cO cL : ClassId} {b e0 : Nat} {A : gW} {h : Nat} {σ : Bk} (hB : rBk cI cZ cO e0 A h σ) (hw : wf σ) (x y xa xb xc : Int32) : Met l y_MB_call (Cond.code y_MB_call b_MB_call 6 (some .long) :: TT) ({ frames := 33, cells := 8, slots := 1004, locals := 957 }) (va_Pc [.ref h, .int x, .int y, .int xa, .int xb, .int xc] (gI D [(cI, .int), (cZ, .boolean), (cO, .object "java/lang/Object"), (cL, .long)] b e0 A)) (va_Ql (fun (z : Int64) (A2 : gW) => z = (sCall σ x y xa xb xc).2 ∧ rBk cI cZ cO e0 A2 h (sCall σ x y xa xb xc).1 ∧ gO A A2) (fun A2 t => gP D classes b A2 t.heap) (fun q => b ≤ q)) 8 1004 (fun q => b ≤ q) := by
  refine Met.ofG (own := R_MB) (by decide +kernel) rfl (Nat.le_of_ble_eq_true rfl) ?_
  intro p e s m below meth c ls hx hb hr hlk hml hown hnm hts hI hl
  have hl : lv_has ls 6 [(0, .ref h), (1, .int x), (2, .int y), (3, .int xa), (4, .int xb), (5, .int xc)] := hl
  have hS : gS b s.heap s.heap [] := va_S.rf
  obtain ⟨hP, hK⟩ := hI
  obtain ⟨ra, ia, sa, ua, aR, aI, aM, fs, fB, hLR, hLI, fS, hfs, hBu, hRs, hIs⟩ := id hB
  obtain ⟨w1, w2, w3, w4, w5, w6, w7, w8⟩ := id hw
  obtain ⟨moR, qR, capR, efR, fLR, -⟩ := id hLR
  obtain ⟨moI, qI, capI, efI, fLI, -⟩ := id hLI
  obtain ⟨hk, hv, fk, fv, fM, fK, fV, hn3, hms⟩ := id hBu
  have hQ : rBq cI cZ cO e0 A h ra ia sa ua aR aI aM fs σ := ⟨fB, hLR, hLI, fS, hfs, hBu, hRs, hIs⟩
  refine lv_iload_n hx hb d_MB_call_0 rfl (lv_at hl 1 rfl) ?_
  refine lv_iload_n hx hb d_MB_call_1 rfl (lv_at hl 2 rfl) ?_
  refine g_ri (g_runS (As := [.int x, .int y]) (rest := []) ⟨hx, hb, hml, hown, hts⟩ (c_MB_isMethod l x y) st_MB_isMethod k_107 ⟨rfl, rfl, by decide, by decide⟩ (gT_pre _) rfl hl.1 rfl (Nat.le_of_ble_eq_true rfl) d_MB_call_2 ⟨by decide, by decide⟩) (fun r1 hr1 => ?_)
  subst hr1
  refine lv_if_eq (tgt := 21) hx hb d_MB_call_5 (by decide) (fun c2 => ?_) (fun c2 => ?_)
  · skip
    rw [bI_0] at c2
    refine lv_ldc2 (v := 60000000000) hx hb hown (hts _ k_257) d_MB_call_21 ?_
    have e9 : sCall σ x y xa xb xc = (σ, xNONE) := by unfold sCall; rw [if_neg (by simp_all)]
    refine W.widen (k := 8) (n := 1004) (by decide) (by decide) ?_
    exact W.lret hx hb hr (fun t ht _ => ⟨⟨_, A, rfl, ⟨by rw [e9]; rfl, by rw [e9]; exact hB, gO.rf⟩, show gP D classes b A t.heap by rw [ht]; exact hP⟩, hS.F ht⟩) hS.2.2 d_MB_call_24
  · skip
    rw [bI_0] at c2
    have hin : inR x 0 3 = true ∧ inR y 0 7 = true := by simpa using c2
    obtain ⟨mk, hmk, rfl⟩ := inR_of (M := 3) (n := 3) (by decide) hin.1
    obtain ⟨mt, hmt, rfl⟩ := inR_of (M := 7) (n := 7) (by decide) hin.2
    have hc1 := nI_clamp (show mk < 2 ^ 31 by omega)
    have hc2 := nI_clamp (show mt < 2 ^ 31 by omega)
    refine lv_aload_n hx hb d_MB_call_8 rfl (lv_at hl 0 rfl) ?_
    refine g_get hx hb hts i_MB hown hK.1 hP fB rfl 1 (by decide) (hts _ k_69) (fun _ h9 => h9) rfl d_MB_call_9 ?_
    refine g_ri (g_runV (As := []) (rest := []) ⟨hx, hb, hml, hown, hts⟩ (c_AL_size l hLI) st_AL_size k_120 ⟨rfl, rfl, by decide, by decide⟩ rfl (gI.preV hK hS hP fLI rfl _) rfl hl.1 rfl (Nat.le_of_ble_eq_true rfl) d_MB_call_12 ⟨by decide, by decide⟩) (fun r3 hr3 => ?_)
    subst hr3
    refine lv_sipush (v := 160) hx hb d_MB_call_15 (by decide) ?_
    refine lv_icmp_lt (tgt := 25) hx hb d_MB_call_18 (by decide) (fun c4 => ?_) (fun c4 => ?_)
    · skip
      replace c4 : (kIs σ).length < 160 := (nI_ltI (a := (kIs σ).length) (b := 160) (by omega) (by decide)).mp c4
      refine lv_aload_n hx hb d_MB_call_25 rfl (lv_at hl 0 rfl) ?_
      refine lv_iload_n hx hb d_MB_call_26 rfl (lv_at hl 1 rfl) ?_
      refine lv_iload_n hx hb d_MB_call_27 rfl (lv_at hl 2 rfl) ?_
      refine lv_iload_n hx hb d_MB_call_28 rfl (lv_at hl 3 rfl) ?_
      refine lv_iload hx hb d_MB_call_29 (lv_at hl 4 rfl) ?_
      refine lv_iload hx hb d_MB_call_31 (lv_at hl 5 rfl) ?_
      refine lv_iconst (v := 0) hx hb d_MB_call_33 (by decide) ?_
      refine lv_iconst (v := (-1)) hx hb d_MB_call_34 (by decide) ?_
      refine g_cl (B := fun A2 H => gP D classes b A2 H) (g_runV (As := [.int (nI mk), .int (nI mt), .int xa, .int xb, .int xc, .int 0, .int (-1)]) (rest := []) ⟨hx, hb, hml, hown, hts⟩ (NR_all l 4 A h ra ia sa ua aR aI aM fs σ mk mt 0 xa xb xc (-1) hQ hw.C (by omega) (by omega) rfl) st_MB_noteAndRespond k_258 ⟨rfl, rfl, by decide, by decide⟩ rfl (gI.preV hK hS hP fB rfl _) rfl hl.1 rfl (Nat.le_of_ble_eq_true rfl) d_MB_call_35 ⟨by decide, by decide⟩) hS (fun r7 A5 H locs hp6 hP hS => ?_)
      replace hP : gP D classes b A5 H := hP
      refine W.widen (k := 8) (n := 1004) (by decide) (by decide) ?_
      obtain ⟨hz, ⟨aI5, haI5, hQ5⟩, go5⟩ := hp6
      have e9 : sCall σ (nI mk) (nI mt) xa xb xc = (((calS (kSt σ) 4 (kRs σ) (kIs σ).length mk mt (xa, xb, xc) 0 (-1)).1, kIs σ ++ (calS (kSt σ) 4 (kRs σ) (kIs σ).length mk mt (xa, xb, xc) 0 (-1)).2.1, kSt σ, kBu σ, kMk σ), (calS (kSt σ) 4 (kRs σ) (kIs σ).length mk mt (xa, xb, xc) 0 (-1)).2.2) := by unfold sCall; rw [if_pos (by simp_all), hc1, hc2, if_neg (by omega)]
      refine W.widen (k := 8) (n := 1004) (by decide) (by decide) ?_
      exact W.lret hx hb hr (fun t ht _ => ⟨⟨_, A5, rfl, ⟨by rw [e9]; exact hz, by rw [e9]; exact hQ5.k, go5⟩, show gP D classes b A5 t.heap by rw [ht]; exact hP⟩, hS.F ht⟩) hS.2.2 d_MB_call_38
    · skip
      replace c4 : ¬ (kIs σ).length < 160 := fun q => c4 ((nI_ltI (a := (kIs σ).length) (b := 160) (by omega) (by decide)).mpr q)
      refine lv_ldc2 (v := 60000000000) hx hb hown (hts _ k_257) d_MB_call_21 ?_
      have e9 : sCall σ (nI mk) (nI mt) xa xb xc = (σ, xNONE) := by unfold sCall; rw [if_pos (by simp_all), hc1, hc2, if_pos (by omega)]
      refine W.widen (k := 8) (n := 1004) (by decide) (by decide) ?_
      exact W.lret hx hb hr (fun t ht _ => ⟨⟨_, A, rfl, ⟨by rw [e9]; rfl, by rw [e9]; exact hB, gO.rf⟩, show gP D classes b A t.heap by rw [ht]; exact hP⟩, hS.F ht⟩) hS.2.2 d_MB_call_24
set_option maxHeartbeats 4000000 in
set_option maxRecDepth 100000 in
theorem c_MB_init (l : Launch) {D : va_G} {cI cZ cO cL : ClassId} {b e0 : Nat} {A : gW} {h : Nat} (f0 : A (0, 0) = some (h, .inr (0, [.null, .null, .null, .null, .int 0]))) (fE : A (3, 0) = some (e0, .inl (cO, 0, .inr (.inr (.inr (.inr fun _ => none)))))) : Met l y_MB_init (Cond.code y_MB_init b_MB_init 1 none :: TT) ({ frames := 4, cells := 6, slots := 19, locals := 72 }) (va_Pc [.ref h] (gI D [(cI, .int), (cZ, .boolean), (cO, .object "java/lang/Object"), (cL, .long)] b e0 A)) (va_Qv (fun A2 : gW => rBk cI cZ cO e0 A2 h ([], [], fun _ => false, [], 0) ∧ gO A A2) (fun A2 t => gP D classes b A2 t.heap) (fun q => b ≤ q)) 6 19 (fun q => b ≤ q) := by
  refine Met.ofG (own := R_MB) (by decide +kernel) rfl (Nat.le_of_ble_eq_true rfl) ?_
  intro p e s m below meth c ls hx hb hr hlk hml hown hnm hts hI hl
  have hl : lv_has ls 1 [(0, .ref h)] := hl
  have hS : gS b s.heap s.heap [] := va_S.rf
  obtain ⟨hP, hK⟩ := hI
  refine lv_aload_n hx hb d_MB_init_0 rfl (lv_at hl 0 rfl) ?_
  refine W.objInit hx hb hown (hts _ k_20) (hts _ k_21) (hts _ k_22) rfl (by rw [hml]; exact hl.1) rfl d_MB_init_1 (Nat.le_of_ble_eq_true rfl) (Nat.le_of_ble_eq_true rfl) ?_
  refine W.eq (g2 := F0 m 4 ls []) rfl ?_
  refine lv_aload_n hx hb d_MB_init_4 rfl (lv_at hl 0 rfl) ?_
  refine g_new (ci := 4) (fs := [.int 0, .null, .int 0]) hx hb hts i_AL t_AL t_AL_ok hown (hts _ k_23) (hts _ k_24) (hts _ k_4) hK.1 hP hS (1, 0) rfl (fun j hj => by rcases (show j = 0 ∨ j = 1 ∨ j = 2 by omega) with rfl | rfl | rfl <;> rfl) (by decide) (by decide) d_MB_init_5 (fun q1 H hP hS => ?_)
  refine W.widen (k := 1) (n := 3) (by decide) (by decide) ?_
  obtain ⟨A2, eA2⟩ : ∃ z, z = gU A (1, 0) (q1, .inr (4, [.int 0, .null, .int 0])) := ⟨_, rfl⟩
  replace hP : gP D classes b A2 H := by rw [eA2]; exact hP
  have f3 : A2 (0, 0) = some (h, .inr (0, [.null, .null, .null, .null, .int 0])) := (by rw [eA2]; exact gU_n (gne (show (0 : Nat) ≠ 1 by decide)) : A2 (0, 0) = A (0, 0)).trans f0
  have f4 : A2 (3, 0) = some (e0, .inl (cO, 0, .inr (.inr (.inr (.inr (fun _ => none)))))) := (by rw [eA2]; exact gU_n (gne (show (3 : Nat) ≠ 1 by decide)) : A2 (3, 0) = A (3, 0)).trans fE
  have f5 : A2 (1, 0) = some (q1, .inr (4, [.int 0, .null, .int 0])) := by rw [eA2]; exact gU_s
  have go6 : gO A A2 := by rw [eA2]; exact (gF_U gF.rf (by decide) : gF [1] 0 A _).out rfl
  refine lv_dup hx hb d_MB_init_8 rfl ?_
  refine g_cv (B := fun A2 H => gP D classes b A2 H) (g_runI (b := q1) (As := []) (rest := [.ref q1, .ref h]) ⟨hx, hb, hml, hown, hts⟩ (c_AL_init l f5 f4 8 2 (fun _ => 0)) st_AL_init k_25 ⟨rfl, rfl, by decide, by decide⟩ (gI.pre hK hS hP _) rfl hl.1 rfl (Nat.le_of_ble_eq_true rfl) d_MB_init_9 ⟨by decide, by decide⟩) hS (fun A7 H locs hp8 hP hS => ?_)
  replace hP : gP D classes b A7 H := hP
  refine W.widen (k := 1) (n := 3) (by decide) (by decide) ?_
  obtain ⟨hL0, gL0⟩ := hp8
  have f9 : A7 (0, 0) = some (h, .inr (0, [.null, .null, .null, .null, .int 0])) := (gL0.at (n := 0) (j := 0) (by decide)).trans f3
  have f10 : A7 (3, 0) = some (e0, .inl (cO, 0, .inr (.inr (.inr (.inr (fun _ => none)))))) := (gL0.at (n := 3) (j := 0) (by decide)).trans f4
  have go11 := gL0.out rfl
  refine g_putF (ty := (.object "java/util/ArrayList")) (v := .ref q1) hx hb hts i_MB t_MB t_MB_ok n_MB hown hK.1 hP hS f9 rfl 0 (by decide) (hts _ k_68) (fun _ h9 => h9) rfl hnm rfl (by decide +kernel) rfl rfl (Nat.le_of_ble_eq_true rfl) d_MB_init_12 (fun H locs hP hS => ?_)
  obtain ⟨A12, eA12⟩ : ∃ z, z = gU A7 (0, 0) (h, .inr (0, [.ref q1, .null, .null, .null, .int 0])) := ⟨_, rfl⟩
  replace hP : gP D classes b A12 H := by rw [eA12]; exact hP
  have f13 : A12 (3, 0) = some (e0, .inl (cO, 0, .inr (.inr (.inr (.inr (fun _ => none)))))) := (by rw [eA12]; exact gU_n (gne (show (3 : Nat) ≠ 0 by decide)) : A12 (3, 0) = A7 (3, 0)).trans f10
  have f14 : A12 (0, 0) = some (h, .inr (0, [.ref q1, .null, .null, .null, .int 0])) := by rw [eA12]; exact gU_s
  have go15 : gO A7 A12 := by rw [eA12]; exact (gF_U gF.rf (by decide) : gF [0] 0 A7 _).out rfl
  refine lv_aload_n hx hb d_MB_init_15 rfl (lv_at hl 0 rfl) ?_
  refine g_new (ci := 4) (fs := [.int 0, .null, .int 0]) hx hb hts i_AL t_AL t_AL_ok hown (hts _ k_23) (hts _ k_24) (hts _ k_4) hK.1 hP hS (1, 1) rfl (fun j hj => by rcases (show j = 0 ∨ j = 1 ∨ j = 2 by omega) with rfl | rfl | rfl <;> rfl) (by decide) (by decide) d_MB_init_16 (fun q16 H hP hS => ?_)
  refine W.widen (k := 2) (n := 6) (by decide) (by decide) ?_
  obtain ⟨A17, eA17⟩ : ∃ z, z = gU A12 (1, 1) (q16, .inr (4, [.int 0, .null, .int 0])) := ⟨_, rfl⟩
  replace hP : gP D classes b A17 H := by rw [eA17]; exact hP
  have f18 : A17 (0, 0) = some (h, .inr (0, [.ref q1, .null, .null, .null, .int 0])) := (by rw [eA17]; exact gU_n (gne (show (0 : Nat) ≠ 1 by decide)) : A17 (0, 0) = A12 (0, 0)).trans f14
  have f19 : A17 (3, 0) = some (e0, .inl (cO, 0, .inr (.inr (.inr (.inr (fun _ => none)))))) := (by rw [eA17]; exact gU_n (gne (show (3 : Nat) ≠ 1 by decide)) : A17 (3, 0) = A12 (3, 0)).trans f13
  have f20 : A17 (1, 1) = some (q16, .inr (4, [.int 0, .null, .int 0])) := by rw [eA17]; exact gU_s
  have go21 : gO A12 A17 := by rw [eA17]; exact (gF_U gF.rf (by decide) : gF [1] 1 A12 _).out rfl
  refine lv_dup hx hb d_MB_init_19 rfl ?_
  refine g_cv (B := fun A2 H => gP D classes b A2 H) (g_runI (b := q16) (As := []) (rest := [.ref q16, .ref h]) ⟨hx, hb, hml, hown, hts⟩ (c_AL_init l f20 f19 11 3 (fun _ => 0)) st_AL_init k_25 ⟨rfl, rfl, by decide, by decide⟩ (gI.pre hK hS hP _) rfl hl.1 rfl (Nat.le_of_ble_eq_true rfl) d_MB_init_20 ⟨by decide, by decide⟩) hS (fun A22 H locs hp23 hP hS => ?_)
  replace hP : gP D classes b A22 H := hP
  refine W.widen (k := 2) (n := 6) (by decide) (by decide) ?_
  obtain ⟨hL1, gL1⟩ := hp23
  have f24 : A22 (0, 0) = some (h, .inr (0, [.ref q1, .null, .null, .null, .int 0])) := (gL1.at (n := 0) (j := 0) (by decide)).trans f18
  have f25 : A22 (3, 0) = some (e0, .inl (cO, 0, .inr (.inr (.inr (.inr (fun _ => none)))))) := (gL1.at (n := 3) (j := 0) (by decide)).trans f19
  have go26 := gL1.out rfl
  refine g_putF (ty := (.object "java/util/ArrayList")) (v := .ref q16) hx hb hts i_MB t_MB t_MB_ok n_MB hown hK.1 hP hS f24 rfl 1 (by decide) (hts _ k_69) (fun _ h9 => h9) rfl hnm rfl (by decide +kernel) rfl rfl (Nat.le_of_ble_eq_true rfl) d_MB_init_23 (fun H locs hP hS => ?_)
  obtain ⟨A27, eA27⟩ : ∃ z, z = gU A22 (0, 0) (h, .inr (0, [.ref q1, .ref q16, .null, .null, .int 0])) := ⟨_, rfl⟩
  replace hP : gP D classes b A27 H := by rw [eA27]; exact hP
  have f28 : A27 (3, 0) = some (e0, .inl (cO, 0, .inr (.inr (.inr (.inr (fun _ => none)))))) := (by rw [eA27]; exact gU_n (gne (show (3 : Nat) ≠ 0 by decide)) : A27 (3, 0) = A22 (3, 0)).trans f25
  have f29 : A27 (0, 0) = some (h, .inr (0, [.ref q1, .ref q16, .null, .null, .int 0])) := by rw [eA27]; exact gU_s
  have go30 : gO A22 A27 := by rw [eA27]; exact (gF_U gF.rf (by decide) : gF [0] 0 A22 _).out rfl
  refine lv_aload_n hx hb d_MB_init_26 rfl (lv_at hl 0 rfl) ?_
  refine lv_iconst (v := 4) hx hb d_MB_init_27 (by decide) ?_
  refine g_newa (atype := .boolean) (a0 := (4, .inl (fun _ => 0))) (N' := 4) hx hb (hts _ k_66) rfl hK.1 hP hS (4, 0) (hK.1.2 1 _ rfl).2 rfl (by decide) (by decide) (by decide) (by decide) (by decide) d_MB_init_28 (fun q31 H hP hS => ?_)
  refine W.widen (k := 3) (n := 10) (by decide) (by decide) ?_
  obtain ⟨A32, eA32⟩ : ∃ z, z = gU A27 (4, 0) (q31, .inl (cZ, 4, .inl (fun _ => 0))) := ⟨_, rfl⟩
  replace hP : gP D classes b A32 H := by rw [eA32]; exact hP
  have f33 : A32 (0, 0) = some (h, .inr (0, [.ref q1, .ref q16, .null, .null, .int 0])) := (by rw [eA32]; exact gU_n (gne (show (0 : Nat) ≠ 4 by decide)) : A32 (0, 0) = A27 (0, 0)).trans f29
  have f34 : A32 (3, 0) = some (e0, .inl (cO, 0, .inr (.inr (.inr (.inr (fun _ => none)))))) := (by rw [eA32]; exact gU_n (gne (show (3 : Nat) ≠ 4 by decide)) : A32 (3, 0) = A27 (3, 0)).trans f28
  have f35 : A32 (4, 0) = some (q31, .inl (cZ, 4, .inl (fun _ => 0))) := by rw [eA32]; exact gU_s
  have go36 : gO A27 A32 := by rw [eA32]; exact (gF_U gF.rf (by decide) : gF [4] 0 A27 _).out rfl
  refine g_putF (ty := (.array .boolean)) (v := .ref q31) hx hb hts i_MB t_MB t_MB_ok n_MB hown hK.1 hP hS f33 rfl 2 (by decide) (hts _ k_70) (fun _ h9 => h9) rfl hnm rfl (by decide +kernel) rfl rfl (Nat.le_of_ble_eq_true rfl) d_MB_init_30 (fun H locs hP hS => ?_)
  obtain ⟨A37, eA37⟩ : ∃ z, z = gU A32 (0, 0) (h, .inr (0, [.ref q1, .ref q16, .ref q31, .null, .int 0])) := ⟨_, rfl⟩
  replace hP : gP D classes b A37 H := by rw [eA37]; exact hP
  have f38 : A37 (3, 0) = some (e0, .inl (cO, 0, .inr (.inr (.inr (.inr (fun _ => none)))))) := (by rw [eA37]; exact gU_n (gne (show (3 : Nat) ≠ 0 by decide)) : A37 (3, 0) = A32 (3, 0)).trans f34
  have f39 : A37 (4, 0) = some (q31, .inl (cZ, 4, .inl (fun _ => 0))) := (by rw [eA37]; exact gU_n (gne (show (4 : Nat) ≠ 0 by decide)) : A37 (4, 0) = A32 (4, 0)).trans f35
  have f40 : A37 (0, 0) = some (h, .inr (0, [.ref q1, .ref q16, .ref q31, .null, .int 0])) := by rw [eA37]; exact gU_s
  have go41 : gO A32 A37 := by rw [eA37]; exact (gF_U gF.rf (by decide) : gF [0] 0 A32 _).out rfl
  refine lv_aload_n hx hb d_MB_init_33 rfl (lv_at hl 0 rfl) ?_
  refine g_new (ci := 1) (fs := [.null, .null, .int 0]) hx hb hts i_Ma t_Ma t_Ma_ok hown (hts _ k_49) (hts _ k_50) (hts _ k_5) hK.1 hP hS (5, 0) rfl (fun j hj => by rcases (show j = 0 ∨ j = 1 ∨ j = 2 by omega) with rfl | rfl | rfl <;> rfl) (by decide) (by decide) d_MB_init_34 (fun q42 H hP hS => ?_)
  refine W.widen (k := 4) (n := 13) (by decide) (by decide) ?_
  obtain ⟨A43, eA43⟩ : ∃ z, z = gU A37 (5, 0) (q42, .inr (1, [.null, .null, .int 0])) := ⟨_, rfl⟩
  replace hP : gP D classes b A43 H := by rw [eA43]; exact hP
  have f44 : A43 (0, 0) = some (h, .inr (0, [.ref q1, .ref q16, .ref q31, .null, .int 0])) := (by rw [eA43]; exact gU_n (gne (show (0 : Nat) ≠ 5 by decide)) : A43 (0, 0) = A37 (0, 0)).trans f40
  have f45 : A43 (3, 0) = some (e0, .inl (cO, 0, .inr (.inr (.inr (.inr (fun _ => none)))))) := (by rw [eA43]; exact gU_n (gne (show (3 : Nat) ≠ 5 by decide)) : A43 (3, 0) = A37 (3, 0)).trans f38
  have f46 : A43 (4, 0) = some (q31, .inl (cZ, 4, .inl (fun _ => 0))) := (by rw [eA43]; exact gU_n (gne (show (4 : Nat) ≠ 5 by decide)) : A43 (4, 0) = A37 (4, 0)).trans f39
  have f47 : A43 (5, 0) = some (q42, .inr (1, [.null, .null, .int 0])) := by rw [eA43]; exact gU_s
  have go48 : gO A37 A43 := by rw [eA43]; exact (gF_U gF.rf (by decide) : gF [5] 0 A37 _).out rfl
  refine lv_dup hx hb d_MB_init_37 rfl ?_
  refine g_cv (B := fun A2 H => gP D classes b A2 H) (g_runIN (b := q42) (As := []) (rest := [.ref q42, .ref h]) ⟨hx, hb, hml, hown, hts⟩ (c_Ma_init l f47) st_Ma_init (hK.2.1 _ (List.mem_of_getElem? (i := 0) rfl)) ⟨rfl, rfl, by decide, by decide⟩ (gI.pre hK hS hP _) rfl hl.1 rfl (Nat.le_of_ble_eq_true rfl) d_MB_init_38 ⟨by decide, by decide⟩) hS (fun A49 H locs hp50 hP hS => ?_)
  replace hP : gP D classes b A49 H := hP
  refine W.widen (k := 6) (n := 19) (by decide) (by decide) ?_
  obtain ⟨hm4, gm4⟩ := hp50
  have f51 : A49 (0, 0) = some (h, .inr (0, [.ref q1, .ref q16, .ref q31, .null, .int 0])) := (gm4.at (n := 0) (j := 0) (by decide)).trans f44
  have f52 : A49 (3, 0) = some (e0, .inl (cO, 0, .inr (.inr (.inr (.inr (fun _ => none)))))) := (gm4.at (n := 3) (j := 0) (by decide)).trans f45
  have f53 : A49 (4, 0) = some (q31, .inl (cZ, 4, .inl (fun _ => 0))) := (gm4.at (n := 4) (j := 0) (by decide)).trans f46
  have go54 := gm4.out rfl
  refine g_put (ty := (.object "MockBook$Matchers")) (v := .ref q42) hx hb hts i_MB t_MB t_MB_ok n_MB hown hK.1 hP hS f51 rfl 3 (by decide) (hts _ k_71) (fun _ h9 => h9) rfl (by decide +kernel) rfl rfl (Nat.le_of_ble_eq_true rfl) d_MB_init_41 (fun H locs hP hS => ?_)
  obtain ⟨A55, eA55⟩ : ∃ z, z = gU A49 (0, 0) (h, .inr (0, [.ref q1, .ref q16, .ref q31, .ref q42, .int 0])) := ⟨_, rfl⟩
  replace hP : gP D classes b A55 H := by rw [eA55]; exact hP
  have f56 : A55 (3, 0) = some (e0, .inl (cO, 0, .inr (.inr (.inr (.inr (fun _ => none)))))) := (by rw [eA55]; exact gU_n (gne (show (3 : Nat) ≠ 0 by decide)) : A55 (3, 0) = A49 (3, 0)).trans f52
  have f57 : A55 (4, 0) = some (q31, .inl (cZ, 4, .inl (fun _ => 0))) := (by rw [eA55]; exact gU_n (gne (show (4 : Nat) ≠ 0 by decide)) : A55 (4, 0) = A49 (4, 0)).trans f53
  have f58 : A55 (0, 0) = some (h, .inr (0, [.ref q1, .ref q16, .ref q31, .ref q42, .int 0])) := by rw [eA55]; exact gU_s
  have go59 : gO A49 A55 := by rw [eA55]; exact (gF_U gF.rf (by decide) : gF [0] 0 A49 _).out rfl
  refine lv_aload_n hx hb d_MB_init_44 rfl (lv_at hl 0 rfl) ?_
  refine lv_iconst (v := (-1)) hx hb d_MB_init_45 (by decide) ?_
  refine g_put (ty := .int) (v := .int (-1)) hx hb hts i_MB t_MB t_MB_ok n_MB hown hK.1 hP hS f58 rfl 4 (by decide) (hts _ k_72) (fun _ h9 => h9) rfl (by decide +kernel) rfl rfl (Nat.le_of_ble_eq_true rfl) d_MB_init_46 (fun H locs hP hS => ?_)
  obtain ⟨A60, eA60⟩ : ∃ z, z = gU A55 (0, 0) (h, .inr (0, [.ref q1, .ref q16, .ref q31, .ref q42, .int (-1)])) := ⟨_, rfl⟩
  replace hP : gP D classes b A60 H := by rw [eA60]; exact hP
  have f61 : A60 (3, 0) = some (e0, .inl (cO, 0, .inr (.inr (.inr (.inr (fun _ => none)))))) := (by rw [eA60]; exact gU_n (gne (show (3 : Nat) ≠ 0 by decide)) : A60 (3, 0) = A55 (3, 0)).trans f56
  have f62 : A60 (4, 0) = some (q31, .inl (cZ, 4, .inl (fun _ => 0))) := (by rw [eA60]; exact gU_n (gne (show (4 : Nat) ≠ 0 by decide)) : A60 (4, 0) = A55 (4, 0)).trans f57
  have f63 : A60 (0, 0) = some (h, .inr (0, [.ref q1, .ref q16, .ref q31, .ref q42, .int (-1)])) := by rw [eA60]; exact gU_s
  have go64 : gO A55 A60 := by rw [eA60]; exact (gF_U gF.rf (by decide) : gF [0] 0 A55 _).out rfl
  have k0 := hL0.keep' ((by rw [eA60]; exact gU_n (gne (show (1 : Nat) ≠ 0 by decide)) : A60 (1, 0) = A55 (1, 0)).trans ((by rw [eA55]; exact gU_n (gne (show (1 : Nat) ≠ 0 by decide)) : A55 (1, 0) = A49 (1, 0)).trans ((gm4.at (n := 1) (j := 0) rfl).trans ((by rw [eA43]; exact gU_n (gne (show (1 : Nat) ≠ 5 by decide)) : A43 (1, 0) = A37 (1, 0)).trans ((by rw [eA37]; exact gU_n (gne (show (1 : Nat) ≠ 0 by decide)) : A37 (1, 0) = A32 (1, 0)).trans ((by rw [eA32]; exact gU_n (gne (show (1 : Nat) ≠ 4 by decide)) : A32 (1, 0) = A27 (1, 0)).trans ((by rw [eA27]; exact gU_n (gne (show (1 : Nat) ≠ 0 by decide)) : A27 (1, 0) = A22 (1, 0)).trans ((gL1.at2 (n := 1) (j := 0) (by decide)).trans ((by rw [eA17]; exact gU_n (gne2 (show 0 ≠ 1 by omega)) : A17 (1, 0) = A12 (1, 0)).trans (by rw [eA12]; exact gU_n (gne (show (1 : Nat) ≠ 0 by decide)) : A12 (1, 0) = A7 (1, 0))))))))))) ((by rw [eA60]; exact gU_n (gne (show (2 : Nat) ≠ 0 by decide)) : A60 (2, 0) = A55 (2, 0)).trans ((by rw [eA55]; exact gU_n (gne (show (2 : Nat) ≠ 0 by decide)) : A55 (2, 0) = A49 (2, 0)).trans ((gm4.at (n := 2) (j := 0) rfl).trans ((by rw [eA43]; exact gU_n (gne (show (2 : Nat) ≠ 5 by decide)) : A43 (2, 0) = A37 (2, 0)).trans ((by rw [eA37]; exact gU_n (gne (show (2 : Nat) ≠ 0 by decide)) : A37 (2, 0) = A32 (2, 0)).trans ((by rw [eA32]; exact gU_n (gne (show (2 : Nat) ≠ 4 by decide)) : A32 (2, 0) = A27 (2, 0)).trans ((by rw [eA27]; exact gU_n (gne (show (2 : Nat) ≠ 0 by decide)) : A27 (2, 0) = A22 (2, 0)).trans ((gL1.at (n := 2) (j := 0) rfl).trans ((by rw [eA17]; exact gU_n (gne (show (2 : Nat) ≠ 1 by decide)) : A17 (2, 0) = A12 (2, 0)).trans (by rw [eA12]; exact gU_n (gne (show (2 : Nat) ≠ 0 by decide)) : A12 (2, 0) = A7 (2, 0))))))))))) ((by rw [eA60]; exact gU_n (gne (show (3 : Nat) ≠ 0 by decide)) : A60 (3, 0) = A55 (3, 0)).trans ((by rw [eA55]; exact gU_n (gne (show (3 : Nat) ≠ 0 by decide)) : A55 (3, 0) = A49 (3, 0)).trans ((gm4.at (n := 3) (j := 0) rfl).trans ((by rw [eA43]; exact gU_n (gne (show (3 : Nat) ≠ 5 by decide)) : A43 (3, 0) = A37 (3, 0)).trans ((by rw [eA37]; exact gU_n (gne (show (3 : Nat) ≠ 0 by decide)) : A37 (3, 0) = A32 (3, 0)).trans ((by rw [eA32]; exact gU_n (gne (show (3 : Nat) ≠ 4 by decide)) : A32 (3, 0) = A27 (3, 0)).trans ((by rw [eA27]; exact gU_n (gne (show (3 : Nat) ≠ 0 by decide)) : A27 (3, 0) = A22 (3, 0)).trans ((gL1.at (n := 3) (j := 0) rfl).trans ((by rw [eA17]; exact gU_n (gne (show (3 : Nat) ≠ 1 by decide)) : A17 (3, 0) = A12 (3, 0)).trans (by rw [eA12]; exact gU_n (gne (show (3 : Nat) ≠ 0 by decide)) : A12 (3, 0) = A7 (3, 0))))))))))) (fun i hi => absurd hi (Nat.not_lt_zero i))
  have k1 := hL1.keep' ((by rw [eA60]; exact gU_n (gne (show (1 : Nat) ≠ 0 by decide)) : A60 (1, 1) = A55 (1, 1)).trans ((by rw [eA55]; exact gU_n (gne (show (1 : Nat) ≠ 0 by decide)) : A55 (1, 1) = A49 (1, 1)).trans ((gm4.at (n := 1) (j := 1) rfl).trans ((by rw [eA43]; exact gU_n (gne (show (1 : Nat) ≠ 5 by decide)) : A43 (1, 1) = A37 (1, 1)).trans ((by rw [eA37]; exact gU_n (gne (show (1 : Nat) ≠ 0 by decide)) : A37 (1, 1) = A32 (1, 1)).trans ((by rw [eA32]; exact gU_n (gne (show (1 : Nat) ≠ 4 by decide)) : A32 (1, 1) = A27 (1, 1)).trans (by rw [eA27]; exact gU_n (gne (show (1 : Nat) ≠ 0 by decide)) : A27 (1, 1) = A22 (1, 1)))))))) ((by rw [eA60]; exact gU_n (gne (show (2 : Nat) ≠ 0 by decide)) : A60 (2, 1) = A55 (2, 1)).trans ((by rw [eA55]; exact gU_n (gne (show (2 : Nat) ≠ 0 by decide)) : A55 (2, 1) = A49 (2, 1)).trans ((gm4.at (n := 2) (j := 1) rfl).trans ((by rw [eA43]; exact gU_n (gne (show (2 : Nat) ≠ 5 by decide)) : A43 (2, 1) = A37 (2, 1)).trans ((by rw [eA37]; exact gU_n (gne (show (2 : Nat) ≠ 0 by decide)) : A37 (2, 1) = A32 (2, 1)).trans ((by rw [eA32]; exact gU_n (gne (show (2 : Nat) ≠ 4 by decide)) : A32 (2, 1) = A27 (2, 1)).trans (by rw [eA27]; exact gU_n (gne (show (2 : Nat) ≠ 0 by decide)) : A27 (2, 1) = A22 (2, 1)))))))) ((by rw [eA60]; exact gU_n (gne (show (3 : Nat) ≠ 0 by decide)) : A60 (3, 0) = A55 (3, 0)).trans ((by rw [eA55]; exact gU_n (gne (show (3 : Nat) ≠ 0 by decide)) : A55 (3, 0) = A49 (3, 0)).trans ((gm4.at (n := 3) (j := 0) rfl).trans ((by rw [eA43]; exact gU_n (gne (show (3 : Nat) ≠ 5 by decide)) : A43 (3, 0) = A37 (3, 0)).trans ((by rw [eA37]; exact gU_n (gne (show (3 : Nat) ≠ 0 by decide)) : A37 (3, 0) = A32 (3, 0)).trans ((by rw [eA32]; exact gU_n (gne (show (3 : Nat) ≠ 4 by decide)) : A32 (3, 0) = A27 (3, 0)).trans (by rw [eA27]; exact gU_n (gne (show (3 : Nat) ≠ 0 by decide)) : A27 (3, 0) = A22 (3, 0)))))))) (fun i hi => absurd hi (Nat.not_lt_zero i))
  have km := hm4.keep ((by rw [eA60]; exact gU_n (gne (show (5 : Nat) ≠ 0 by decide)) : A60 (5, 0) = A55 (5, 0)).trans (by rw [eA55]; exact gU_n (gne (show (5 : Nat) ≠ 0 by decide)) : A55 (5, 0) = A49 (5, 0))) ((by rw [eA60]; exact gU_n (gne (show (6 : Nat) ≠ 0 by decide)) : A60 (6, 0) = A55 (6, 0)).trans (by rw [eA55]; exact gU_n (gne (show (6 : Nat) ≠ 0 by decide)) : A55 (6, 0) = A49 (6, 0))) ((by rw [eA60]; exact gU_n (gne (show (7 : Nat) ≠ 0 by decide)) : A60 (7, 0) = A55 (7, 0)).trans (by rw [eA55]; exact gU_n (gne (show (7 : Nat) ≠ 0 by decide)) : A55 (7, 0) = A49 (7, 0)))
  refine W.widen (k := 6) (n := 19) (by decide) (by decide) ?_
  exact W.vret hx hb hr (fun t ht _ => ⟨⟨A60, rfl, ⟨⟨q1, q16, q31, q42, fun _ => 0, fun _ => 0, fun _ => 0, fun _ => 0, f63, k0, k1, f62, fun j hj => rfl, km, fun i hi => absurd hi (Nat.not_lt_zero i), fun i hi => absurd hi (Nat.not_lt_zero i)⟩, (((((((((((go6).trans go11).trans go15).trans go21).trans go26).trans go30).trans go36).trans go41).trans go48).trans go54).trans go59).trans go64⟩, show gP D classes b A60 t.heap by rw [ht]; exact hP⟩, hS.F ht⟩) hS.2.2 d_MB_init_49
end
section
/-! The reference's cells: one object (20, 0), its arrays (21 + k, 0) by the number k of the field; what they hold as functions. -/
def mArr : Nat → Bool := fun k => match k with
  | 2 => false
  | 11 => false
  | 19 => false
  | 22 => false
  | 23 => false
  | k => decide (k < 22)
def mLen : Nat → Nat := fun k => match k with
  | 0 => 3
  | 1 => 3
  | 3 => 24
  | 4 => 24
  | 5 => 24
  | 6 => 72
  | 7 => 72
  | 8 => 96
  | 9 => 96
  | 10 => 24
  | 12 => 4
  | 15 => 480
  | _ => 160
def mTy (cI cZ : ClassId) : Nat → ClassId := fun k => match k with
  | 5 => cZ
  | 12 => cZ
  | 20 => cZ
  | 21 => cZ
  | _ => cI
def mObj (ad : Nat → Nat) (bn rn nn m1 : Nat) : List Value := [.ref (ad 0), .ref (ad 1), .int (nI bn), .ref (ad 3), .ref (ad 4), .ref (ad 5), .ref (ad 6), .ref (ad 7), .ref (ad 8), .ref (ad 9), .ref (ad 10), .int (nI rn), .ref (ad 12), .ref (ad 13), .ref (ad 14), .ref (ad 15), .ref (ad 16), .ref (ad 17), .ref (ad 18), .ref (ad 19), .ref (ad 20), .ref (ad 21), .int (nI nn), .int (nI m1 - 1)]
def rMM (cI cZ cL : ClassId) (A : gW) (h : Nat) (ad : Nat → Nat) (F : Nat → Nat → Int32) (G : Nat → Int64) (bn rn nn m1 : Nat) : Prop :=
  A (20, 0) = some (h, .inr (5, mObj ad bn rn nn m1)) ∧ (∀ k, mArr k = true → A (21 + k, 0) = some (ad k, .inl (mTy cI cZ k, mLen k, .inl (F k)))) ∧ A (40, 0) = some (ad 19, .inl (cL, 160, .inr (.inl G)))
section MM
variable {cI cZ cL : ClassId} {A : gW} {h : Nat} {ad : Nat → Nat} {F : Nat → Nat → Int32} {G : Nat → Int64} {bn rn nn m1 : Nat}
theorem rMM.put (hM : rMM cI cZ cL A h ad F G bn rn nn m1) (k : Nat) (hk : mArr k = true) (f : Nat → Int32) : rMM cI cZ cL (gU A (21 + k, 0) (ad k, .inl (mTy cI cZ k, mLen k, .inl f))) h ad (va_up F k f) G bn rn nn m1 := by
  refine ⟨(gU_n (gne (show (20 : Nat) ≠ 21 + k by omega))).trans hM.1, fun j hj => ?_, ?_⟩
  · by_cases e : j = k
    · subst e
      rw [gU_s, va_up, if_pos rfl]
    · rw [gU_n (gne (show 21 + j ≠ 21 + k by omega)), va_up, if_neg e]
      exact hM.2.1 j hj
  · have : k ≠ 19 := fun e => by rw [e] at hk; cases hk
    exact (gU_n (gne (show (40 : Nat) ≠ 21 + k by omega))).trans hM.2.2
theorem rMM.res (hM : rMM cI cZ cL A h ad F G bn rn nn m1) (f : Nat → Int64) : rMM cI cZ cL (gU A (40, 0) (ad 19, .inl (cL, 160, .inr (.inl f)))) h ad F f bn rn nn m1 := by
  refine ⟨(gU_n (gne (show (20 : Nat) ≠ 40 by omega))).trans hM.1, fun j hj => ?_, gU_s⟩
  have : j ≠ 19 := fun e => by rw [e] at hj; cases hj
  exact (gU_n (gne (show 21 + j ≠ 40 by omega))).trans (hM.2.1 j hj)
theorem rMM.obj (hM : rMM cI cZ cL A h ad F G bn rn nn m1) {b2 r2 n2 m2 : Nat} : rMM cI cZ cL (gU A (20, 0) (h, .inr (5, mObj ad b2 r2 n2 m2))) h ad F G b2 r2 n2 m2 :=
  ⟨gU_s, fun j hj => (gU_n (gne (show 21 + j ≠ 20 by omega))).trans (hM.2.1 j hj), (gU_n (gne (show (40 : Nat) ≠ 20 by omega))).trans hM.2.2⟩
end MM
def mRu (F : Nat → Nat → Int32) (i : Nat) (r : Ru) : Prop := F 3 i = nI (uMk r) ∧ F 4 i = nI (uMt r) ∧ F 5 i = bI (uLv r) ∧ F 10 i = nI (uAc r).length ∧ (∀ j, j < (uMs r).length → F 6 (3 * i + j) = ((uMs r).getD j (0, 0)).1 ∧ F 7 (3 * i + j) = ((uMs r).getD j (0, 0)).2) ∧ ∀ j, j < (uAc r).length → F 8 (4 * i + j) = ((uAc r).getD j (0, 0)).1 ∧ F 9 (4 * i + j) = ((uAc r).getD j (0, 0)).2
def mIn (F : Nat → Nat → Int32) (i : Nat) (t : It) : Prop := F 13 i = nI (iMk t) ∧ F 14 i = nI (iMt t) ∧ (∀ j, j < 3 → F 15 (3 * i + j) = argP (iX t) (nI j)) ∧ F 16 i = nI (iDp t) ∧ F 17 i = iFr t ∧ F 18 i = nI (iRu t) - 1 ∧ F 20 i = bI (iLv t) ∧ F 21 i = bI (iVe t)
/-- the functions hold the book; answers are known below gn -/
def mRep (F : Nat → Nat → Int32) (G : Nat → Int64) (σ : Bk) (gn : Nat) : Prop :=
  (∀ j, j < (kBu σ).length → F 0 j = ((kBu σ).getD j (0, 0)).1 ∧ F 1 j = ((kBu σ).getD j (0, 0)).2) ∧
  (∀ i, i < (kRs σ).length → mRu F i ((kRs σ).getD i u0)) ∧
  (∀ i, (kRs σ).length ≤ i → i < 24 → F 10 i = 0) ∧
  (∀ j, j < 4 → F 12 j = bI (kSt σ j)) ∧
  (∀ i, i < (kIs σ).length → mIn F i ((kIs σ).getD i i0)) ∧
  (∀ i, (kIs σ).length ≤ i → i < 160 → F 21 i = 0) ∧
  ∀ i, i < gn → G i = iAn ((kIs σ).getD i i0)
def rMo (cI cZ cL : ClassId) (A : gW) (h : Nat) (σ : Bk) : Prop := ∃ (ad : Nat → Nat) (F : Nat → Nat → Int32) (G : Nat → Int64), rMM cI cZ cL A h ad F G (kBu σ).length (kRs σ).length (kIs σ).length (kMk σ) ∧ mRep F G σ (kIs σ).length
/-- names below 20 have not changed -/
def gL (A A' : gW) : Prop := ∀ k : gN, k.1 < 20 → A' k = A k
theorem gL.rf {A : gW} : gL A A := fun _ _ => rfl
theorem gL.trans {A B C : gW} (h : gL A B) (h2 : gL B C) : gL A C := fun k hk => (h2 k hk).trans (h k hk)
theorem gL.U {A A1 : gW} {n : Nat} {x : Nat × va_E} (h : gL A A1) (hn : 20 ≤ n) : gL A (gU A1 (n, 0) x) := fun k hk => (gU_n (fun e => by rw [e] at hk; simp at hk; omega)).trans (h k hk)
theorem nIm1 {a r : Nat} (ha : a < 2 ^ 30) (hr : r < 2 ^ 30) : nI a - 1 = nI r ↔ a = r + 1 := by
  cases a with
  | zero => exact ⟨fun e => by
      have := congrArg Int32.toInt e
      rw [show nI 0 - 1 = -1 by decide, nI_toInt (by omega), show (-1 : Int32).toInt = -1 by decide] at this
      omega, fun e => by omega⟩
  | succ k => rw [nI_pred, nI_eq (by omega) (by omega)]; omega
end
section
theorem va_up2 {α : Type} (f : Nat → α) (k : Nat) (x y : α) : va_up (va_up f k x) k y = va_up f k y := by
  funext j
  unfold va_up
  by_cases h : j = k
  · rw [if_pos h, if_pos h]
  · rw [if_neg h, if_neg h, if_neg h]
theorem upd2 (f : Nat → Int32) (k : Nat) (x y : Int32) : upd (upd f k x) k y = upd f k y := by
  funext j
  unfold upd
  by_cases h : j = k
  · rw [if_pos h, if_pos h]
  · rw [if_neg h, if_neg h, if_neg h]
theorem mul3 (a : Nat) : 3 * nI a = nI (3 * a) := pk_mul 3 a
theorem mul4 (a : Nat) : 4 * nI a = nI (4 * a) := pk_mul 4 a
theorem add2' (a : Nat) : nI a + 2 = nI (a + 2) := nI_add a 2
theorem k5 {k : Int32} (h : inR k 0 5 = true) (h0 : ¬ k = 0) (h1 : ¬ k = 1) (h2 : ¬ k = 2) (h3 : ¬ k = 3) (h4 : ¬ k = 4) : k = 5 := by
  obtain ⟨j, hj, rfl⟩ := inR_of (M := 5) (n := 5) (by decide) h
  rcases (by omega : j = 0 ∨ j = 1 ∨ j = 2 ∨ j = 3 ∨ j = 4 ∨ j = 5) with rfl | rfl | rfl | rfl | rfl | rfl
  · exact absurd rfl h0
  · exact absurd rfl h1
  · exact absurd rfl h2
  · exact absurd rfl h3
  · exact absurd rfl h4
  · rfl
set_option maxHeartbeats 4000000 in
set_option maxRecDepth 100000 in
theorem c_MM_bad (l : Launch)  (x y : Int32) : Met l y_MM_bad (Cond.code y_MM_bad b_MM_bad 2 (some .boolean) :: TT) ({ frames := 0, cells := 0, slots := 0, locals := 0 }) (va_Pc [.int x, .int y] (fun _ => True)) (vp_Si (fun r => r = bI (!(inR x 0 3 && inR y 0 7)))) 0 0 (fun _ => False) := by
  refine Met.ofG (own := R_MM) (by decide +kernel) rfl (Nat.le_of_ble_eq_true rfl) ?_
  intro p e s m below meth c ls hx hb hr hlk hml hown hnm hts hI hl
  have hl : lv_has ls 2 [(0, .int x), (1, .int y)] := hl
  refine lv_iload_n hx hb d_MM_bad_0 rfl (lv_at hl 0 rfl) ?_
  refine lv_if_lt (tgt := 19) hx hb d_MM_bad_1 (by decide) (fun c1 => ?_) (fun c1 => ?_)
  · skip
    refine lv_iconst (v := 1) hx hb d_MM_bad_19 (by decide) ?_
    refine lv_goto (tgt := 24) hx hb d_MM_bad_20 (by decide) ?_
    exact W.zret hx hb hr rfl (fun t ht _ => ⟨_, rfl, (by simp_all [inR, bI, ← Int32.not_lt]), ht⟩) (fun _ h => nomatch h) d_MM_bad_24
  · skip
    refine lv_iload_n hx hb d_MM_bad_4 rfl (lv_at hl 0 rfl) ?_
    refine lv_iconst (v := 3) hx hb d_MM_bad_5 (by decide) ?_
    refine lv_icmp_gt (tgt := 19) hx hb d_MM_bad_6 (by decide) (fun c2 => ?_) (fun c2 => ?_)
    · skip
      refine lv_iconst (v := 1) hx hb d_MM_bad_19 (by decide) ?_
      refine lv_goto (tgt := 24) hx hb d_MM_bad_20 (by decide) ?_
      exact W.zret hx hb hr rfl (fun t ht _ => ⟨_, rfl, (by simp_all [inR, bI, ← Int32.not_lt]), ht⟩) (fun _ h => nomatch h) d_MM_bad_24
    · skip
      refine lv_iload_n hx hb d_MM_bad_9 rfl (lv_at hl 1 rfl) ?_
      refine lv_if_lt (tgt := 19) hx hb d_MM_bad_10 (by decide) (fun c3 => ?_) (fun c3 => ?_)
      · skip
        refine lv_iconst (v := 1) hx hb d_MM_bad_19 (by decide) ?_
        refine lv_goto (tgt := 24) hx hb d_MM_bad_20 (by decide) ?_
        exact W.zret hx hb hr rfl (fun t ht _ => ⟨_, rfl, (by simp_all [inR, bI, ← Int32.not_lt]), ht⟩) (fun _ h => nomatch h) d_MM_bad_24
      · skip
        refine lv_iload_n hx hb d_MM_bad_13 rfl (lv_at hl 1 rfl) ?_
        refine lv_bipush (v := 7) hx hb d_MM_bad_14 (by decide) ?_
        refine lv_icmp_le (tgt := 23) hx hb d_MM_bad_16 (by decide) (fun c4 => ?_) (fun c4 => ?_)
        · skip
          refine lv_iconst (v := 0) hx hb d_MM_bad_23 (by decide) ?_
          exact W.zret hx hb hr rfl (fun t ht _ => ⟨_, rfl, (by simp_all [inR, bI, ← Int32.not_lt]), ht⟩) (fun _ h => nomatch h) d_MM_bad_24
        · skip
          refine lv_iconst (v := 1) hx hb d_MM_bad_19 (by decide) ?_
          refine lv_goto (tgt := 24) hx hb d_MM_bad_20 (by decide) ?_
          exact W.zret hx hb hr rfl (fun t ht _ => ⟨_, rfl, (by simp_all [inR, bI, ← Int32.not_lt]), ht⟩) (fun _ h => nomatch h) d_MM_bad_24
set_option maxHeartbeats 4000000 in
set_option maxRecDepth 100000 in
theorem c_MM_fits (l : Launch)  {k : Int32} (hk : inR k 0 5 = true) (v x : Int32) : Met l y_MM_fits (Cond.code y_MM_fits b_MM_fits 3 (some .boolean) :: TT) ({ frames := 0, cells := 0, slots := 0, locals := 0 }) (va_Pc [.int k, .int v, .int x] (fun _ => True)) (vp_Si (fun r => r = bI (fit1 k v x))) 0 0 (fun _ => False) := by
  refine Met.ofG (own := R_MM) (by decide +kernel) rfl (Nat.le_of_ble_eq_true rfl) ?_
  intro p e s m below meth c ls hx hb hr hlk hml hown hnm hts hI hl
  have hl : lv_has ls 3 [(0, .int k), (1, .int v), (2, .int x)] := hl
  refine lv_iload_n hx hb d_MM_fits_0 rfl (lv_at hl 0 rfl) ?_
  by_cases c1 : k = 0
  · refine lv_tableIn (off := 35) (tgt := 36) hx hb d_MM_fits_1 (by rw [c1]; decide) (by rw [c1]; decide) (by rw [c1]; rfl) (by decide) ?_
    refine lv_iconst (v := 1) hx hb d_MM_fits_36 (by decide) ?_
    exact W.zret hx hb hr rfl (fun t ht _ => ⟨_, rfl, (by simp_all [fit1, bI, ← Int32.not_lt]), ht⟩) (fun _ h => nomatch h) d_MM_fits_37
  by_cases c2 : k = 1
  · refine lv_tableIn (off := 37) (tgt := 38) hx hb d_MM_fits_1 (by rw [c2]; decide) (by rw [c2]; decide) (by rw [c2]; rfl) (by decide) ?_
    refine lv_iload_n hx hb d_MM_fits_38 rfl (lv_at hl 2 rfl) ?_
    refine lv_iload_n hx hb d_MM_fits_39 rfl (lv_at hl 1 rfl) ?_
    refine lv_icmp_ne (tgt := 47) hx hb d_MM_fits_40 (by decide) (fun c3 => ?_) (fun c3 => ?_)
    · skip
      refine lv_iconst (v := 0) hx hb d_MM_fits_47 (by decide) ?_
      exact W.zret hx hb hr rfl (fun t ht _ => ⟨_, rfl, (by simp_all [fit1, bI, ← Int32.not_lt]), ht⟩) (fun _ h => nomatch h) d_MM_fits_48
    · skip
      refine lv_iconst (v := 1) hx hb d_MM_fits_43 (by decide) ?_
      refine lv_goto (tgt := 48) hx hb d_MM_fits_44 (by decide) ?_
      exact W.zret hx hb hr rfl (fun t ht _ => ⟨_, rfl, (by simp_all [fit1, bI, ← Int32.not_lt]), ht⟩) (fun _ h => nomatch h) d_MM_fits_48
  by_cases c4 : k = 2
  · refine lv_tableIn (off := 48) (tgt := 49) hx hb d_MM_fits_1 (by rw [c4]; decide) (by rw [c4]; decide) (by rw [c4]; rfl) (by decide) ?_
    refine lv_iload_n hx hb d_MM_fits_49 rfl (lv_at hl 2 rfl) ?_
    refine lv_iload_n hx hb d_MM_fits_50 rfl (lv_at hl 1 rfl) ?_
    refine lv_icmp_eq (tgt := 58) hx hb d_MM_fits_51 (by decide) (fun c5 => ?_) (fun c5 => ?_)
    · skip
      refine lv_iconst (v := 0) hx hb d_MM_fits_58 (by decide) ?_
      exact W.zret hx hb hr rfl (fun t ht _ => ⟨_, rfl, (by simp_all [fit1, bI, ← Int32.not_lt]), ht⟩) (fun _ h => nomatch h) d_MM_fits_59
    · skip
      refine lv_iconst (v := 1) hx hb d_MM_fits_54 (by decide) ?_
      refine lv_goto (tgt := 59) hx hb d_MM_fits_55 (by decide) ?_
      exact W.zret hx hb hr rfl (fun t ht _ => ⟨_, rfl, (by simp_all [fit1, bI, ← Int32.not_lt]), ht⟩) (fun _ h => nomatch h) d_MM_fits_59
  by_cases c6 : k = 3
  · refine lv_tableIn (off := 59) (tgt := 60) hx hb d_MM_fits_1 (by rw [c6]; decide) (by rw [c6]; decide) (by rw [c6]; rfl) (by decide) ?_
    refine lv_iload_n hx hb d_MM_fits_60 rfl (lv_at hl 2 rfl) ?_
    refine lv_iload_n hx hb d_MM_fits_61 rfl (lv_at hl 1 rfl) ?_
    refine lv_icmp_ge (tgt := 69) hx hb d_MM_fits_62 (by decide) (fun c7 => ?_) (fun c7 => ?_)
    · skip
      refine lv_iconst (v := 0) hx hb d_MM_fits_69 (by decide) ?_
      exact W.zret hx hb hr rfl (fun t ht _ => ⟨_, rfl, (by simp_all [fit1, bI, ← Int32.not_lt]), ht⟩) (fun _ h => nomatch h) d_MM_fits_70
    · skip
      refine lv_iconst (v := 1) hx hb d_MM_fits_65 (by decide) ?_
      refine lv_goto (tgt := 70) hx hb d_MM_fits_66 (by decide) ?_
      exact W.zret hx hb hr rfl (fun t ht _ => ⟨_, rfl, (by simp_all [fit1, bI, ← Int32.not_lt]), ht⟩) (fun _ h => nomatch h) d_MM_fits_70
  by_cases c8 : k = 4
  · refine lv_tableIn (off := 70) (tgt := 71) hx hb d_MM_fits_1 (by rw [c8]; decide) (by rw [c8]; decide) (by rw [c8]; rfl) (by decide) ?_
    refine lv_iload_n hx hb d_MM_fits_71 rfl (lv_at hl 2 rfl) ?_
    refine lv_iload_n hx hb d_MM_fits_72 rfl (lv_at hl 1 rfl) ?_
    refine lv_icmp_le (tgt := 80) hx hb d_MM_fits_73 (by decide) (fun c9 => ?_) (fun c9 => ?_)
    · skip
      refine lv_iconst (v := 0) hx hb d_MM_fits_80 (by decide) ?_
      exact W.zret hx hb hr rfl (fun t ht _ => ⟨_, rfl, (by simp_all [fit1, bI, ← Int32.not_lt]), ht⟩) (fun _ h => nomatch h) d_MM_fits_81
    · skip
      refine lv_iconst (v := 1) hx hb d_MM_fits_76 (by decide) ?_
      refine lv_goto (tgt := 81) hx hb d_MM_fits_77 (by decide) ?_
      exact W.zret hx hb hr rfl (fun t ht _ => ⟨_, rfl, (by simp_all [fit1, bI, ← Int32.not_lt]), ht⟩) (fun _ h => nomatch h) d_MM_fits_81
  refine lv_tableOut (tgt := 82) hx hb d_MM_fits_1 (by have q0 := lv_neT c1 (show (0 : Int32).toInt = 0 by decide); have q1 := lv_neT c2 (show (1 : Int32).toInt = 1 by decide); have q2 := lv_neT c4 (show (2 : Int32).toInt = 2 by decide); have q3 := lv_neT c6 (show (3 : Int32).toInt = 3 by decide); have q4 := lv_neT c8 (show (4 : Int32).toInt = 4 by decide); omega) (by decide) ?_
  have hk5 := k5 hk c1 c2 c4 c6 c8
  refine lv_iload_n hx hb d_MM_fits_82 rfl (lv_at hl 2 rfl) ?_
  refine lv_iconst (v := 3) hx hb d_MM_fits_83 (by decide) ?_
  refine lv_iand hx hb d_MM_fits_84 ?_
  refine lv_iload_n hx hb d_MM_fits_85 rfl (lv_at hl 1 rfl) ?_
  refine lv_iconst (v := 3) hx hb d_MM_fits_86 (by decide) ?_
  refine lv_iand hx hb d_MM_fits_87 ?_
  refine lv_icmp_ne (tgt := 95) hx hb d_MM_fits_88 (by decide) (fun c11 => ?_) (fun c11 => ?_)
  · skip
    refine lv_iconst (v := 0) hx hb d_MM_fits_95 (by decide) ?_
    exact W.zret hx hb hr rfl (fun t ht _ => ⟨_, rfl, (by simp_all [fit1, bI, ← Int32.not_lt]), ht⟩) (fun _ h => nomatch h) d_MM_fits_96
  · skip
    refine lv_iconst (v := 1) hx hb d_MM_fits_91 (by decide) ?_
    refine lv_goto (tgt := 96) hx hb d_MM_fits_92 (by decide) ?_
    exact W.zret hx hb hr rfl (fun t ht _ => ⟨_, rfl, (by simp_all [fit1, bI, ← Int32.not_lt]), ht⟩) (fun _ h => nomatch h) d_MM_fits_96
set_option maxHeartbeats 4000000 in
set_option maxRecDepth 100000 in
theorem c_MM_uses (l : Launch) {D : va_G} {cI cZ cO cL : ClassId} {b e0 : Nat} {A : gW} {h : Nat} {ad : Nat → Nat} {F : Nat → Nat → Int32} {G : Nat → Int64} {bn rn nn m1 : Nat} (hM : rMM cI cZ cL A h ad F G bn rn nn m1) {a : Nat → Nat} (ha : ∀ k, a k ≤ 1000) {n0 r : Nat} (hn0 : n0 ≤ 160) (hr0 : r < 24) (hu : ∀ k, k < n0 → F 18 k = nI (a k) - 1) : Met l y_MM_uses (Cond.code y_MM_uses b_MM_uses 5 (some .int) :: TT) ({ frames := 0, cells := 0, slots := 0, locals := 0 }) (va_Pc [.ref h, .int (nI r), .int (nI n0)] (gI D [(cI, .int), (cZ, .boolean), (cO, .object "java/lang/Object"), (cL, .long)] b e0 A)) (vp_Si (fun z => z = nI (cnt (fun k => decide (a k = r + 1)) n0))) 0 0 (fun _ => False) := by
  refine Met.ofG (own := R_MM) (by decide +kernel) rfl (Nat.le_of_ble_eq_true rfl) ?_
  intro p e s m below meth c ls hx hb hr hlk hml hown hnm hts hI hl
  have hl : lv_has ls 5 [(0, .ref h), (1, .int (nI r)), (2, .int (nI n0))] := hl
  obtain ⟨hP, hK⟩ := hI
  refine lv_iconst (v := 0) hx hb d_MM_uses_0 (by decide) ?_
  refine lv_istore_n (lv' := [(3, .int 0), (0, .ref h), (1, .int (nI r)), (2, .int (nI n0))]) hx hb d_MM_uses_1 rfl hl (by decide) rfl (fun ls hl => ?_)
  refine lv_iconst (v := 0) hx hb d_MM_uses_2 (by decide) ?_
  refine lv_istore (lv' := [(4, .int 0), (3, .int 0), (0, .ref h), (1, .int (nI r)), (2, .int (nI n0))]) hx hb d_MM_uses_3 hl (by decide) rfl (fun ls hl => ?_)
  obtain ⟨i, hi0⟩ : ∃ z : Nat, z = 0 := ⟨_, rfl⟩
  obtain ⟨cn, hcn0⟩ : ∃ z : Nat, z = 0 := ⟨_, rfl⟩
  obtain ⟨n, hn⟩ : ∃ z : Nat, i + z = n0 := ⟨n0 - i, by omega⟩
  replace hl : lv_has ls 5 [(4, .int (nI i)), (3, .int (nI cn)), (0, .ref h), (1, .int (nI r)), (2, .int (nI n0))] := by rw [hi0, hcn0, nI_0]; exact hl
  have hinv : cn = cnt (fun k => decide (a k = r + 1)) i := by subst hi0 hcn0; rfl
  clear hi0 hcn0
  induction n generalizing i cn ls with
  | zero =>
    refine lv_iload hx hb d_MM_uses_5 (lv_at hl 0 rfl) ?_
    refine lv_iload_n hx hb d_MM_uses_7 rfl (lv_at hl 4 rfl) ?_
    refine lv_icmp_ge (tgt := 31) hx hb d_MM_uses_8 (by decide) (fun _ => ?_) (fun h9 => absurd (nI_le (show n0 ≤ i by omega) (by omega)) h9)
    refine lv_iload_n hx hb d_MM_uses_31 rfl (lv_at hl 1 rfl) ?_
    exact W.iret hx hb hr (fun t ht _ => ⟨_, rfl, (by rw [hinv, show i = n0 by omega]), ht⟩) (fun _ h => nomatch h) d_MM_uses_32
  | succ n ih =>
    refine lv_iload hx hb d_MM_uses_5 (lv_at hl 0 rfl) ?_
    refine lv_iload_n hx hb d_MM_uses_7 rfl (lv_at hl 4 rfl) ?_
    refine lv_icmp_ge (tgt := 31) hx hb d_MM_uses_8 (by decide) (fun h9 => absurd h9 (nI_ge (show i < n0 by omega) (by omega))) (fun _ => ?_)
    refine lv_aload_n hx hb d_MM_uses_11 rfl (lv_at hl 2 rfl) ?_
    refine g_get hx hb hts i_MM hown hK.1 hP (show A (20, 0) = some (h, .inr (5, [.ref (ad 0), .ref (ad 1), .int (nI bn), .ref (ad 3), .ref (ad 4), .ref (ad 5), .ref (ad 6), .ref (ad 7), .ref (ad 8), .ref (ad 9), .ref (ad 10), .int (nI rn), .ref (ad 12), .ref (ad 13), .ref (ad 14), .ref (ad 15), .ref (ad 16), .ref (ad 17), .ref (ad 18), .ref (ad 19), .ref (ad 20), .ref (ad 21), .int (nI nn), .int (nI m1 - 1)])) from hM.1) rfl 18 (by decide) (hts _ k_461) (fun _ h9 => h9) rfl d_MM_uses_12 ?_
    refine lv_iload hx hb d_MM_uses_15 (lv_at hl 0 rfl) ?_
    refine g_iald (v := nI (a i) - 1) hx hb hK.1 hP 0 (show A (39, 0) = some (ad 18, .inl (cI, 160, .inl (F 18))) from hM.2.1 18 rfl) rfl (vp_in_nI (show i < 160 by omega) (by omega)) (by rw [(nI_clamp (show i < 2 ^ 31 by omega))]; exact hu i (by omega)) d_MM_uses_17 ?_
    refine lv_iload_n hx hb d_MM_uses_18 rfl (lv_at hl 3 rfl) ?_
    refine lv_icmp_ne (tgt := 25) hx hb d_MM_uses_19 (by decide) (fun c3 => ?_) (fun c3 => ?_)
    · skip
      rw [nIm1 (by have := ha i; omega) (by omega)] at c3
      refine lv_iinc (v := nI (i + 1)) (lv' := [(4, .int (nI (i + 1))), (3, .int (nI cn)), (0, .ref h), (1, .int (nI r)), (2, .int (nI n0))]) hx hb d_MM_uses_25 hl (k := 0) rfl (nI_1 _) (by decide) rfl (fun ls hl => ?_)
      refine lv_goto (tgt := 5) hx hb d_MM_uses_28 (by decide) ?_
      exact ih _ _ _ (by omega) (lv_sub hl [0, 1, 2, 3, 4] rfl) (by simp_all [cnt])
    · skip
      rw [nIm1 (by have := ha i; omega) (by omega)] at c3
      refine lv_iinc (v := nI (cn + 1)) (lv' := [(3, .int (nI (cn + 1))), (4, .int (nI i)), (0, .ref h), (1, .int (nI r)), (2, .int (nI n0))]) hx hb d_MM_uses_22 hl (k := 1) rfl (nI_1 _) (by decide) rfl (fun ls hl => ?_)
      refine lv_iinc (v := nI (i + 1)) (lv' := [(4, .int (nI (i + 1))), (3, .int (nI (cn + 1))), (0, .ref h), (1, .int (nI r)), (2, .int (nI n0))]) hx hb d_MM_uses_25 hl (k := 1) rfl (nI_1 _) (by decide) rfl (fun ls hl => ?_)
      refine lv_goto (tgt := 5) hx hb d_MM_uses_28 (by decide) ?_
      exact ih _ _ _ (by omega) (lv_sub hl [0, 1, 2, 3, 4] rfl) (by simp_all [cnt])
end
section
theorem argP_0 (x : X3) : argP x (nI 0) = x.1 := if_pos (by decide)
theorem argP_1 (x : X3) : argP x (nI 1) = x.2.1 := by unfold argP; rw [if_neg (by decide), if_pos (by decide)]
theorem argP_2 (x : X3) : argP x (nI 2) = x.2.2 := by unfold argP; rw [if_neg (by decide), if_neg (by decide)]
theorem ruLe {σ : Bk} (hw : wf σ) (k : Nat) : iRu ((kIs σ).getD k i0) ≤ 1000 := by
  by_cases h : k < (kIs σ).length
  · have := (hw.2.2.2.1 k h).2
    have := hw.1
    omega
  · rw [List.getD_eq_getElem?_getD, List.getElem?_eq_none (by omega)]
    exact Nat.zero_le _
theorem inM {x : Int32} {n : Nat} (h0 : ¬ x < 0) (h1 : ¬ nI n ≤ x) (hn : n ≤ 1000) : ∃ j : Nat, j < n ∧ x = nI j := by
  obtain ⟨j, hj, rfl⟩ := nI_of h0
  rw [nI_leI (by omega) hj] at h1
  exact ⟨j, by omega, rfl⟩
theorem inM0 {x M : Int32} (h : x < 0) : inR x 0 M = false := by simp [inR, h]
theorem inM1 {x : Int32} {n : Nat} (h : nI n ≤ x) (hn : n ≤ 1000) : inR x 0 (nI n - 1) = false := by
  cases h9 : inR x 0 (nI n - 1) with
  | false => rfl
  | true =>
    obtain ⟨j, hj, rfl⟩ := inN hn h9
    rw [nI_leI (by omega) (by omega)] at h
    omega
set_option maxHeartbeats 4000000 in
set_option maxRecDepth 100000 in
theorem c_MM_ruleFits (l : Launch) {D : va_G} {cI cZ cO cL : ClassId} {b e0 : Nat} {A : gW} {h : Nat} {ad : Nat → Nat} {F : Nat → Nat → Int32} {G : Nat → Int64} {bn rn nn m1 : Nat} (hM : rMM cI cZ cL A h ad F G bn rn nn m1) {r i : Nat} {ru : Ru} (hr24 : r < 24) (hi160 : i < 160) (hr0 : mRu F r ru) (hwr : wfR ru) {mk mt : Nat} {x : X3} (b1 : mk < 4) (b2 : mt < 8) (e13 : F 13 i = nI mk) (e14 : F 14 i = nI mt) (e15 : ∀ j, j < 3 → F 15 (3 * i + j) = argP x (nI j)) : Met l y_MM_ruleFits (Cond.code y_MM_ruleFits b_MM_ruleFits 4 (some .boolean) :: TT) ({ frames := 1, cells := 0, slots := 0, locals := 22 }) (va_Pc [.ref h, .int (nI r), .int (nI i)] (gI D [(cI, .int), (cZ, .boolean), (cO, .object "java/lang/Object"), (cL, .long)] b e0 A)) (vp_Si (fun z => z = bI (uAns ru mk mt x))) 0 0 (fun _ => False) := by
  refine Met.ofG (own := R_MM) (by decide +kernel) rfl (Nat.le_of_ble_eq_true rfl) ?_
  intro p e s m below meth c ls hx hb hr hlk hml hown hnm hts hI hl
  have hl : lv_has ls 4 [(0, .ref h), (1, .int (nI r)), (2, .int (nI i))] := hl
  obtain ⟨hP, hK⟩ := hI
  obtain ⟨w1, w2, w3, w4, w5, w6, w7⟩ := id hwr
  refine lv_aload_n hx hb d_MM_ruleFits_0 rfl (lv_at hl 0 rfl) ?_
  refine g_get hx hb hts i_MM hown hK.1 hP (show A (20, 0) = some (h, .inr (5, [.ref (ad 0), .ref (ad 1), .int (nI bn), .ref (ad 3), .ref (ad 4), .ref (ad 5), .ref (ad 6), .ref (ad 7), .ref (ad 8), .ref (ad 9), .ref (ad 10), .int (nI rn), .ref (ad 12), .ref (ad 13), .ref (ad 14), .ref (ad 15), .ref (ad 16), .ref (ad 17), .ref (ad 18), .ref (ad 19), .ref (ad 20), .ref (ad 21), .int (nI nn), .int (nI m1 - 1)])) from hM.1) rfl 5 (by decide) (hts _ k_448) (fun _ h9 => h9) rfl d_MM_ruleFits_1 ?_
  refine lv_iload_n hx hb d_MM_ruleFits_4 rfl (lv_at hl 1 rfl) ?_
  refine g_zald (v := bI (uLv ru)) hx hb hK.1 hP 1 (show A (26, 0) = some (ad 5, .inl (cZ, 24, .inl (F 5))) from hM.2.1 5 rfl) rfl (vp_in_nI (show r < 24 by omega) (by omega)) (by rw [(nI_clamp (show r < 2 ^ 31 by omega))]; exact hr0.2.2.1) d_MM_ruleFits_5 ?_
  refine lv_if_eq (tgt := 39) hx hb d_MM_ruleFits_6 (by decide) (fun c1 => ?_) (fun c1 => ?_)
  · skip
    rw [bI_0] at c1
    refine lv_iconst (v := 0) hx hb d_MM_ruleFits_39 (by decide) ?_
    exact W.zret hx hb hr rfl (fun t ht _ => ⟨_, rfl, (by first | (simp_all [uAns, bI]; done) | (simp [fitN] at hinv; simp_all [uAns, bI]; done) | (simp_all [fitN, uAns, bI]; done)), ht⟩) (fun _ h => nomatch h) d_MM_ruleFits_40
  · skip
    rw [bI_0] at c1
    refine lv_aload_n hx hb d_MM_ruleFits_9 rfl (lv_at hl 0 rfl) ?_
    refine g_get hx hb hts i_MM hown hK.1 hP (show A (20, 0) = some (h, .inr (5, [.ref (ad 0), .ref (ad 1), .int (nI bn), .ref (ad 3), .ref (ad 4), .ref (ad 5), .ref (ad 6), .ref (ad 7), .ref (ad 8), .ref (ad 9), .ref (ad 10), .int (nI rn), .ref (ad 12), .ref (ad 13), .ref (ad 14), .ref (ad 15), .ref (ad 16), .ref (ad 17), .ref (ad 18), .ref (ad 19), .ref (ad 20), .ref (ad 21), .int (nI nn), .int (nI m1 - 1)])) from hM.1) rfl 3 (by decide) (hts _ k_446) (fun _ h9 => h9) rfl d_MM_ruleFits_10 ?_
    refine lv_iload_n hx hb d_MM_ruleFits_13 rfl (lv_at hl 1 rfl) ?_
    refine g_iald (v := nI (uMk ru)) hx hb hK.1 hP 0 (show A (24, 0) = some (ad 3, .inl (cI, 24, .inl (F 3))) from hM.2.1 3 rfl) rfl (vp_in_nI (show r < 24 by omega) (by omega)) (by rw [(nI_clamp (show r < 2 ^ 31 by omega))]; exact hr0.1) d_MM_ruleFits_14 ?_
    refine lv_aload_n hx hb d_MM_ruleFits_15 rfl (lv_at hl 0 rfl) ?_
    refine g_get hx hb hts i_MM hown hK.1 hP (show A (20, 0) = some (h, .inr (5, [.ref (ad 0), .ref (ad 1), .int (nI bn), .ref (ad 3), .ref (ad 4), .ref (ad 5), .ref (ad 6), .ref (ad 7), .ref (ad 8), .ref (ad 9), .ref (ad 10), .int (nI rn), .ref (ad 12), .ref (ad 13), .ref (ad 14), .ref (ad 15), .ref (ad 16), .ref (ad 17), .ref (ad 18), .ref (ad 19), .ref (ad 20), .ref (ad 21), .int (nI nn), .int (nI m1 - 1)])) from hM.1) rfl 13 (by decide) (hts _ k_456) (fun _ h9 => h9) rfl d_MM_ruleFits_16 ?_
    refine lv_iload_n hx hb d_MM_ruleFits_19 rfl (lv_at hl 2 rfl) ?_
    refine g_iald (v := nI mk) hx hb hK.1 hP 0 (show A (34, 0) = some (ad 13, .inl (cI, 160, .inl (F 13))) from hM.2.1 13 rfl) rfl (vp_in_nI (show i < 160 by omega) (by omega)) (by rw [(nI_clamp (show i < 2 ^ 31 by omega))]; exact e13) d_MM_ruleFits_20 ?_
    refine lv_icmp_ne (tgt := 39) hx hb d_MM_ruleFits_21 (by decide) (fun c2 => ?_) (fun c2 => ?_)
    · skip
      replace c2 : ¬ uMk ru = mk := fun q => c2 ((nI_eq (a := uMk ru) (b := mk) (by omega) (by omega)).mpr q)
      refine lv_iconst (v := 0) hx hb d_MM_ruleFits_39 (by decide) ?_
      exact W.zret hx hb hr rfl (fun t ht _ => ⟨_, rfl, (by first | (simp_all [uAns, bI]; done) | (simp [fitN] at hinv; simp_all [uAns, bI]; done) | (simp_all [fitN, uAns, bI]; done)), ht⟩) (fun _ h => nomatch h) d_MM_ruleFits_40
    · skip
      replace c2 : uMk ru = mk := (nI_eq (a := uMk ru) (b := mk) (by omega) (by omega)).mp c2
      refine lv_aload_n hx hb d_MM_ruleFits_24 rfl (lv_at hl 0 rfl) ?_
      refine g_get hx hb hts i_MM hown hK.1 hP (show A (20, 0) = some (h, .inr (5, [.ref (ad 0), .ref (ad 1), .int (nI bn), .ref (ad 3), .ref (ad 4), .ref (ad 5), .ref (ad 6), .ref (ad 7), .ref (ad 8), .ref (ad 9), .ref (ad 10), .int (nI rn), .ref (ad 12), .ref (ad 13), .ref (ad 14), .ref (ad 15), .ref (ad 16), .ref (ad 17), .ref (ad 18), .ref (ad 19), .ref (ad 20), .ref (ad 21), .int (nI nn), .int (nI m1 - 1)])) from hM.1) rfl 4 (by decide) (hts _ k_447) (fun _ h9 => h9) rfl d_MM_ruleFits_25 ?_
      refine lv_iload_n hx hb d_MM_ruleFits_28 rfl (lv_at hl 1 rfl) ?_
      refine g_iald (v := nI (uMt ru)) hx hb hK.1 hP 0 (show A (25, 0) = some (ad 4, .inl (cI, 24, .inl (F 4))) from hM.2.1 4 rfl) rfl (vp_in_nI (show r < 24 by omega) (by omega)) (by rw [(nI_clamp (show r < 2 ^ 31 by omega))]; exact hr0.2.1) d_MM_ruleFits_29 ?_
      refine lv_aload_n hx hb d_MM_ruleFits_30 rfl (lv_at hl 0 rfl) ?_
      refine g_get hx hb hts i_MM hown hK.1 hP (show A (20, 0) = some (h, .inr (5, [.ref (ad 0), .ref (ad 1), .int (nI bn), .ref (ad 3), .ref (ad 4), .ref (ad 5), .ref (ad 6), .ref (ad 7), .ref (ad 8), .ref (ad 9), .ref (ad 10), .int (nI rn), .ref (ad 12), .ref (ad 13), .ref (ad 14), .ref (ad 15), .ref (ad 16), .ref (ad 17), .ref (ad 18), .ref (ad 19), .ref (ad 20), .ref (ad 21), .int (nI nn), .int (nI m1 - 1)])) from hM.1) rfl 14 (by decide) (hts _ k_457) (fun _ h9 => h9) rfl d_MM_ruleFits_31 ?_
      refine lv_iload_n hx hb d_MM_ruleFits_34 rfl (lv_at hl 2 rfl) ?_
      refine g_iald (v := nI mt) hx hb hK.1 hP 0 (show A (35, 0) = some (ad 14, .inl (cI, 160, .inl (F 14))) from hM.2.1 14 rfl) rfl (vp_in_nI (show i < 160 by omega) (by omega)) (by rw [(nI_clamp (show i < 2 ^ 31 by omega))]; exact e14) d_MM_ruleFits_35 ?_
      refine lv_icmp_eq (tgt := 41) hx hb d_MM_ruleFits_36 (by decide) (fun c3 => ?_) (fun c3 => ?_)
      · skip
        replace c3 : uMt ru = mt := (nI_eq (a := uMt ru) (b := mt) (by omega) (by omega)).mp c3
        refine lv_iconst (v := 0) hx hb d_MM_ruleFits_41 (by decide) ?_
        refine lv_istore_n (lv' := [(3, .int 0), (0, .ref h), (1, .int (nI r)), (2, .int (nI i))]) hx hb d_MM_ruleFits_42 rfl hl (by decide) rfl (fun ls hl => ?_)
        obtain ⟨q, hq0⟩ : ∃ z : Nat, z = 0 := ⟨_, rfl⟩
        obtain ⟨n, hn⟩ : ∃ z : Nat, q + z = (uMt ru) % 4 := ⟨(uMt ru) % 4 - q, by omega⟩
        replace hl : lv_has ls 4 [(3, .int (nI q)), (0, .ref h), (1, .int (nI r)), (2, .int (nI i))] := by rw [hq0, nI_0]; exact hl
        have hinv : fitN (uMs ru) x n q = fitA (uMs ru) x := by subst hq0; rw [Nat.zero_add] at hn; rw [hn, ← w4]; rfl
        clear hq0
        induction n generalizing q ls with
        | zero =>
          refine lv_iload_n hx hb d_MM_ruleFits_43 rfl (lv_at hl 0 rfl) ?_
          refine lv_aload_n hx hb d_MM_ruleFits_44 rfl (lv_at hl 1 rfl) ?_
          refine g_get hx hb hts i_MM hown hK.1 hP (show A (20, 0) = some (h, .inr (5, [.ref (ad 0), .ref (ad 1), .int (nI bn), .ref (ad 3), .ref (ad 4), .ref (ad 5), .ref (ad 6), .ref (ad 7), .ref (ad 8), .ref (ad 9), .ref (ad 10), .int (nI rn), .ref (ad 12), .ref (ad 13), .ref (ad 14), .ref (ad 15), .ref (ad 16), .ref (ad 17), .ref (ad 18), .ref (ad 19), .ref (ad 20), .ref (ad 21), .int (nI nn), .int (nI m1 - 1)])) from hM.1) rfl 4 (by decide) (hts _ k_447) (fun _ h9 => h9) rfl d_MM_ruleFits_45 ?_
          refine lv_iload_n hx hb d_MM_ruleFits_48 rfl (lv_at hl 2 rfl) ?_
          refine g_iald (v := nI (uMt ru)) hx hb hK.1 hP 0 (show A (25, 0) = some (ad 4, .inl (cI, 24, .inl (F 4))) from hM.2.1 4 rfl) rfl (vp_in_nI (show r < 24 by omega) (by omega)) (by rw [(nI_clamp (show r < 2 ^ 31 by omega))]; exact hr0.2.1) d_MM_ruleFits_49 ?_
          refine lv_iconst (v := 4) hx hb d_MM_ruleFits_50 (by decide) ?_
          refine lv_irem hx hb d_MM_ruleFits_51 (by decide) ?_
          rw [rem4 (show uMt ru < 2 ^ 31 by omega)]
          refine lv_icmp_ge (tgt := 99) hx hb d_MM_ruleFits_52 (by decide) (fun _ => ?_) (fun h9 => absurd (nI_le (show (uMt ru) % 4 ≤ q by omega) (by omega)) h9)
          refine lv_iconst (v := 1) hx hb d_MM_ruleFits_99 (by decide) ?_
          exact W.zret hx hb hr rfl (fun t ht _ => ⟨_, rfl, (by first | (simp_all [uAns, bI]; done) | (simp [fitN] at hinv; simp_all [uAns, bI]; done) | (simp_all [fitN, uAns, bI]; done)), ht⟩) (fun _ h => nomatch h) d_MM_ruleFits_100
        | succ n ih =>
          refine lv_iload_n hx hb d_MM_ruleFits_43 rfl (lv_at hl 0 rfl) ?_
          refine lv_aload_n hx hb d_MM_ruleFits_44 rfl (lv_at hl 1 rfl) ?_
          refine g_get hx hb hts i_MM hown hK.1 hP (show A (20, 0) = some (h, .inr (5, [.ref (ad 0), .ref (ad 1), .int (nI bn), .ref (ad 3), .ref (ad 4), .ref (ad 5), .ref (ad 6), .ref (ad 7), .ref (ad 8), .ref (ad 9), .ref (ad 10), .int (nI rn), .ref (ad 12), .ref (ad 13), .ref (ad 14), .ref (ad 15), .ref (ad 16), .ref (ad 17), .ref (ad 18), .ref (ad 19), .ref (ad 20), .ref (ad 21), .int (nI nn), .int (nI m1 - 1)])) from hM.1) rfl 4 (by decide) (hts _ k_447) (fun _ h9 => h9) rfl d_MM_ruleFits_45 ?_
          refine lv_iload_n hx hb d_MM_ruleFits_48 rfl (lv_at hl 2 rfl) ?_
          refine g_iald (v := nI (uMt ru)) hx hb hK.1 hP 0 (show A (25, 0) = some (ad 4, .inl (cI, 24, .inl (F 4))) from hM.2.1 4 rfl) rfl (vp_in_nI (show r < 24 by omega) (by omega)) (by rw [(nI_clamp (show r < 2 ^ 31 by omega))]; exact hr0.2.1) d_MM_ruleFits_49 ?_
          refine lv_iconst (v := 4) hx hb d_MM_ruleFits_50 (by decide) ?_
          refine lv_irem hx hb d_MM_ruleFits_51 (by decide) ?_
          rw [rem4 (show uMt ru < 2 ^ 31 by omega)]
          refine lv_icmp_ge (tgt := 99) hx hb d_MM_ruleFits_52 (by decide) (fun h9 => absurd h9 (nI_ge (show q < (uMt ru) % 4 by omega) (by omega))) (fun _ => ?_)
          refine lv_aload_n hx hb d_MM_ruleFits_55 rfl (lv_at hl 1 rfl) ?_
          refine g_get hx hb hts i_MM hown hK.1 hP (show A (20, 0) = some (h, .inr (5, [.ref (ad 0), .ref (ad 1), .int (nI bn), .ref (ad 3), .ref (ad 4), .ref (ad 5), .ref (ad 6), .ref (ad 7), .ref (ad 8), .ref (ad 9), .ref (ad 10), .int (nI rn), .ref (ad 12), .ref (ad 13), .ref (ad 14), .ref (ad 15), .ref (ad 16), .ref (ad 17), .ref (ad 18), .ref (ad 19), .ref (ad 20), .ref (ad 21), .int (nI nn), .int (nI m1 - 1)])) from hM.1) rfl 6 (by decide) (hts _ k_449) (fun _ h9 => h9) rfl d_MM_ruleFits_56 ?_
          refine lv_iconst (v := 3) hx hb d_MM_ruleFits_59 (by decide) ?_
          refine lv_iload_n hx hb d_MM_ruleFits_60 rfl (lv_at hl 2 rfl) ?_
          refine lv_imul hx hb d_MM_ruleFits_61 ?_
          rw [mul3 _]
          refine lv_iload_n hx hb d_MM_ruleFits_62 rfl (lv_at hl 0 rfl) ?_
          refine lv_iadd hx hb d_MM_ruleFits_63 ?_
          rw [nI_add _ _]
          refine g_iald (v := ((uMs ru).getD q (0, 0)).1) hx hb hK.1 hP 0 (show A (27, 0) = some (ad 6, .inl (cI, 72, .inl (F 6))) from hM.2.1 6 rfl) rfl (vp_in_nI (show 3 * r + q < 72 by omega) (by omega)) (by rw [(nI_clamp (show 3 * r + q < 2 ^ 31 by omega))]; exact (hr0.2.2.2.2.1 q (by omega)).1) d_MM_ruleFits_64 ?_
          refine lv_aload_n hx hb d_MM_ruleFits_65 rfl (lv_at hl 1 rfl) ?_
          refine g_get hx hb hts i_MM hown hK.1 hP (show A (20, 0) = some (h, .inr (5, [.ref (ad 0), .ref (ad 1), .int (nI bn), .ref (ad 3), .ref (ad 4), .ref (ad 5), .ref (ad 6), .ref (ad 7), .ref (ad 8), .ref (ad 9), .ref (ad 10), .int (nI rn), .ref (ad 12), .ref (ad 13), .ref (ad 14), .ref (ad 15), .ref (ad 16), .ref (ad 17), .ref (ad 18), .ref (ad 19), .ref (ad 20), .ref (ad 21), .int (nI nn), .int (nI m1 - 1)])) from hM.1) rfl 7 (by decide) (hts _ k_450) (fun _ h9 => h9) rfl d_MM_ruleFits_66 ?_
          refine lv_iconst (v := 3) hx hb d_MM_ruleFits_69 (by decide) ?_
          refine lv_iload_n hx hb d_MM_ruleFits_70 rfl (lv_at hl 2 rfl) ?_
          refine lv_imul hx hb d_MM_ruleFits_71 ?_
          rw [mul3 _]
          refine lv_iload_n hx hb d_MM_ruleFits_72 rfl (lv_at hl 0 rfl) ?_
          refine lv_iadd hx hb d_MM_ruleFits_73 ?_
          rw [nI_add _ _]
          refine g_iald (v := ((uMs ru).getD q (0, 0)).2) hx hb hK.1 hP 0 (show A (28, 0) = some (ad 7, .inl (cI, 72, .inl (F 7))) from hM.2.1 7 rfl) rfl (vp_in_nI (show 3 * r + q < 72 by omega) (by omega)) (by rw [(nI_clamp (show 3 * r + q < 2 ^ 31 by omega))]; exact (hr0.2.2.2.2.1 q (by omega)).2) d_MM_ruleFits_74 ?_
          refine lv_aload_n hx hb d_MM_ruleFits_75 rfl (lv_at hl 1 rfl) ?_
          refine g_get hx hb hts i_MM hown hK.1 hP (show A (20, 0) = some (h, .inr (5, [.ref (ad 0), .ref (ad 1), .int (nI bn), .ref (ad 3), .ref (ad 4), .ref (ad 5), .ref (ad 6), .ref (ad 7), .ref (ad 8), .ref (ad 9), .ref (ad 10), .int (nI rn), .ref (ad 12), .ref (ad 13), .ref (ad 14), .ref (ad 15), .ref (ad 16), .ref (ad 17), .ref (ad 18), .ref (ad 19), .ref (ad 20), .ref (ad 21), .int (nI nn), .int (nI m1 - 1)])) from hM.1) rfl 15 (by decide) (hts _ k_458) (fun _ h9 => h9) rfl d_MM_ruleFits_76 ?_
          refine lv_iconst (v := 3) hx hb d_MM_ruleFits_79 (by decide) ?_
          refine lv_iload_n hx hb d_MM_ruleFits_80 rfl (lv_at hl 3 rfl) ?_
          refine lv_imul hx hb d_MM_ruleFits_81 ?_
          rw [mul3 _]
          refine lv_iload_n hx hb d_MM_ruleFits_82 rfl (lv_at hl 0 rfl) ?_
          refine lv_iadd hx hb d_MM_ruleFits_83 ?_
          rw [nI_add _ _]
          refine g_iald (v := argP x (nI q)) hx hb hK.1 hP 0 (show A (36, 0) = some (ad 15, .inl (cI, 480, .inl (F 15))) from hM.2.1 15 rfl) rfl (vp_in_nI (show 3 * i + q < 480 by omega) (by omega)) (by rw [(nI_clamp (show 3 * i + q < 2 ^ 31 by omega))]; exact e15 q (by omega)) d_MM_ruleFits_84 ?_
          refine g_ri (g_runS (As := [.int (((uMs ru).getD q (0, 0)).1), .int (((uMs ru).getD q (0, 0)).2), .int (argP x (nI q))]) (rest := []) ⟨hx, hb, hml, hown, hts⟩ (c_MM_fits l (k := (((uMs ru).getD q (0, 0)).1)) (w7 q (by omega)) (((uMs ru).getD q (0, 0)).2) (argP x (nI q))) st_MM_fits k_557 ⟨rfl, rfl, by decide, by decide⟩ (gT_pre _) rfl hl.1 rfl (Nat.le_of_ble_eq_true rfl) d_MM_ruleFits_85 ⟨by decide, by decide⟩) (fun r6 hr6 => ?_)
          subst hr6
          refine lv_if_ne (tgt := 93) hx hb d_MM_ruleFits_88 (by decide) (fun c7 => ?_) (fun c7 => ?_)
          · skip
            rw [bI_0] at c7
            refine lv_iinc (v := nI (q + 1)) (lv' := [(3, .int (nI (q + 1))), (0, .ref h), (1, .int (nI r)), (2, .int (nI i))]) hx hb d_MM_ruleFits_93 hl (k := 0) rfl (nI_1 _) (by decide) rfl (fun ls hl => ?_)
            refine lv_goto (tgt := 43) hx hb d_MM_ruleFits_96 (by decide) ?_
            exact ih _ _ (by omega) (lv_sub hl [0, 1, 2, 3] rfl) (by simp_all [fitN, bI_0])
          · skip
            rw [bI_0] at c7
            refine lv_iconst (v := 0) hx hb d_MM_ruleFits_91 (by decide) ?_
            exact W.zret hx hb hr rfl (fun t ht _ => ⟨_, rfl, (by first | (simp_all [uAns, bI]; done) | (simp [fitN] at hinv; simp_all [uAns, bI]; done) | (simp_all [fitN, uAns, bI]; done)), ht⟩) (fun _ h => nomatch h) d_MM_ruleFits_92
      · skip
        replace c3 : ¬ uMt ru = mt := fun q => c3 ((nI_eq (a := uMt ru) (b := mt) (by omega) (by omega)).mpr q)
        refine lv_iconst (v := 0) hx hb d_MM_ruleFits_39 (by decide) ?_
        exact W.zret hx hb hr rfl (fun t ht _ => ⟨_, rfl, (by first | (simp_all [uAns, bI]; done) | (simp [fitN] at hinv; simp_all [uAns, bI]; done) | (simp_all [fitN, uAns, bI]; done)), ht⟩) (fun _ h => nomatch h) d_MM_ruleFits_40
set_option maxHeartbeats 4000000 in
set_option maxRecDepth 100000 in
theorem c_MM_asked (l : Launch) {D : va_G} {cI cZ cO cL : ClassId} {b e0 : Nat} {A : gW} {h : Nat} {ad : Nat → Nat} {F : Nat → Nat → Int32} {G : Nat → Int64} {bu : List Pr} {rn nn m1 : Nat} (hM : rMM cI cZ cL A h ad F G bu.length rn nn m1) {i : Nat} {t : It} (hi160 : i < 160) (hi : mIn F i t) (b3 : iMk t < 4) (b4 : iMt t < 8) {mk mt : Nat} (b1 : mk < 4) (b2 : mt < 8) (hn3 : bu.length ≤ 3) (hbu : ∀ j, j < bu.length → F 0 j = (bu.getD j (0, 0)).1 ∧ F 1 j = (bu.getD j (0, 0)).2) (hk : ∀ j, j < bu.length → inR (bu.getD j (0, 0)).1 0 5 = true) : Met l y_MM_asked (Cond.code y_MM_asked b_MM_asked 5 (some .boolean) :: TT) ({ frames := 1, cells := 0, slots := 0, locals := 22 }) (va_Pc [.ref h, .int (nI i), .int (nI mk), .int (nI mt)] (gI D [(cI, .int), (cZ, .boolean), (cO, .object "java/lang/Object"), (cL, .long)] b e0 A)) (vp_Si (fun z => z = bI (iAsk bu mk mt t))) 0 0 (fun _ => False) := by
  refine Met.ofG (own := R_MM) (by decide +kernel) rfl (Nat.le_of_ble_eq_true rfl) ?_
  intro p e s m below meth c ls hx hb hr hlk hml hown hnm hts hI hl
  have hl : lv_has ls 5 [(0, .ref h), (1, .int (nI i)), (2, .int (nI mk)), (3, .int (nI mt))] := hl
  obtain ⟨hP, hK⟩ := hI
  refine lv_aload_n hx hb d_MM_asked_0 rfl (lv_at hl 0 rfl) ?_
  refine g_get hx hb hts i_MM hown hK.1 hP (show A (20, 0) = some (h, .inr (5, [.ref (ad 0), .ref (ad 1), .int (nI bu.length), .ref (ad 3), .ref (ad 4), .ref (ad 5), .ref (ad 6), .ref (ad 7), .ref (ad 8), .ref (ad 9), .ref (ad 10), .int (nI rn), .ref (ad 12), .ref (ad 13), .ref (ad 14), .ref (ad 15), .ref (ad 16), .ref (ad 17), .ref (ad 18), .ref (ad 19), .ref (ad 20), .ref (ad 21), .int (nI nn), .int (nI m1 - 1)])) from hM.1) rfl 20 (by decide) (hts _ k_463) (fun _ h9 => h9) rfl d_MM_asked_1 ?_
  refine lv_iload_n hx hb d_MM_asked_4 rfl (lv_at hl 1 rfl) ?_
  refine g_zald (v := bI (iLv t)) hx hb hK.1 hP 1 (show A (41, 0) = some (ad 20, .inl (cZ, 160, .inl (F 20))) from hM.2.1 20 rfl) rfl (vp_in_nI (show i < 160 by omega) (by omega)) (by rw [(nI_clamp (show i < 2 ^ 31 by omega))]; exact hi.2.2.2.2.2.2.1) d_MM_asked_5 ?_
  refine lv_if_eq (tgt := 29) hx hb d_MM_asked_6 (by decide) (fun c1 => ?_) (fun c1 => ?_)
  · skip
    rw [bI_0] at c1
    refine lv_iconst (v := 0) hx hb d_MM_asked_29 (by decide) ?_
    exact W.zret hx hb hr rfl (fun t ht _ => ⟨_, rfl, (by first | (simp_all [iAsk, bI]; done) | (simp [fitN] at hinv; simp_all [iAsk, bI]; done) | (simp_all [fitN, iAsk, bI]; done)), ht⟩) (fun _ h => nomatch h) d_MM_asked_30
  · skip
    rw [bI_0] at c1
    refine lv_aload_n hx hb d_MM_asked_9 rfl (lv_at hl 0 rfl) ?_
    refine g_get hx hb hts i_MM hown hK.1 hP (show A (20, 0) = some (h, .inr (5, [.ref (ad 0), .ref (ad 1), .int (nI bu.length), .ref (ad 3), .ref (ad 4), .ref (ad 5), .ref (ad 6), .ref (ad 7), .ref (ad 8), .ref (ad 9), .ref (ad 10), .int (nI rn), .ref (ad 12), .ref (ad 13), .ref (ad 14), .ref (ad 15), .ref (ad 16), .ref (ad 17), .ref (ad 18), .ref (ad 19), .ref (ad 20), .ref (ad 21), .int (nI nn), .int (nI m1 - 1)])) from hM.1) rfl 13 (by decide) (hts _ k_456) (fun _ h9 => h9) rfl d_MM_asked_10 ?_
    refine lv_iload_n hx hb d_MM_asked_13 rfl (lv_at hl 1 rfl) ?_
    refine g_iald (v := nI (iMk t)) hx hb hK.1 hP 0 (show A (34, 0) = some (ad 13, .inl (cI, 160, .inl (F 13))) from hM.2.1 13 rfl) rfl (vp_in_nI (show i < 160 by omega) (by omega)) (by rw [(nI_clamp (show i < 2 ^ 31 by omega))]; exact hi.1) d_MM_asked_14 ?_
    refine lv_iload_n hx hb d_MM_asked_15 rfl (lv_at hl 2 rfl) ?_
    refine lv_icmp_ne (tgt := 29) hx hb d_MM_asked_16 (by decide) (fun c2 => ?_) (fun c2 => ?_)
    · skip
      replace c2 : ¬ iMk t = mk := fun q => c2 ((nI_eq (a := iMk t) (b := mk) (by omega) (by omega)).mpr q)
      refine lv_iconst (v := 0) hx hb d_MM_asked_29 (by decide) ?_
      exact W.zret hx hb hr rfl (fun t ht _ => ⟨_, rfl, (by first | (simp_all [iAsk, bI]; done) | (simp [fitN] at hinv; simp_all [iAsk, bI]; done) | (simp_all [fitN, iAsk, bI]; done)), ht⟩) (fun _ h => nomatch h) d_MM_asked_30
    · skip
      replace c2 : iMk t = mk := (nI_eq (a := iMk t) (b := mk) (by omega) (by omega)).mp c2
      refine lv_aload_n hx hb d_MM_asked_19 rfl (lv_at hl 0 rfl) ?_
      refine g_get hx hb hts i_MM hown hK.1 hP (show A (20, 0) = some (h, .inr (5, [.ref (ad 0), .ref (ad 1), .int (nI bu.length), .ref (ad 3), .ref (ad 4), .ref (ad 5), .ref (ad 6), .ref (ad 7), .ref (ad 8), .ref (ad 9), .ref (ad 10), .int (nI rn), .ref (ad 12), .ref (ad 13), .ref (ad 14), .ref (ad 15), .ref (ad 16), .ref (ad 17), .ref (ad 18), .ref (ad 19), .ref (ad 20), .ref (ad 21), .int (nI nn), .int (nI m1 - 1)])) from hM.1) rfl 14 (by decide) (hts _ k_457) (fun _ h9 => h9) rfl d_MM_asked_20 ?_
      refine lv_iload_n hx hb d_MM_asked_23 rfl (lv_at hl 1 rfl) ?_
      refine g_iald (v := nI (iMt t)) hx hb hK.1 hP 0 (show A (35, 0) = some (ad 14, .inl (cI, 160, .inl (F 14))) from hM.2.1 14 rfl) rfl (vp_in_nI (show i < 160 by omega) (by omega)) (by rw [(nI_clamp (show i < 2 ^ 31 by omega))]; exact hi.2.1) d_MM_asked_24 ?_
      refine lv_iload_n hx hb d_MM_asked_25 rfl (lv_at hl 3 rfl) ?_
      refine lv_icmp_eq (tgt := 31) hx hb d_MM_asked_26 (by decide) (fun c3 => ?_) (fun c3 => ?_)
      · skip
        replace c3 : iMt t = mt := (nI_eq (a := iMt t) (b := mt) (by omega) (by omega)).mp c3
        refine lv_iconst (v := 0) hx hb d_MM_asked_31 (by decide) ?_
        refine lv_istore (lv' := [(4, .int 0), (0, .ref h), (1, .int (nI i)), (2, .int (nI mk)), (3, .int (nI mt))]) hx hb d_MM_asked_32 hl (by decide) rfl (fun ls hl => ?_)
        obtain ⟨q, hq0⟩ : ∃ z : Nat, z = 0 := ⟨_, rfl⟩
        obtain ⟨n, hn⟩ : ∃ z : Nat, q + z = bu.length := ⟨bu.length - q, by omega⟩
        replace hl : lv_has ls 5 [(4, .int (nI q)), (0, .ref h), (1, .int (nI i)), (2, .int (nI mk)), (3, .int (nI mt))] := by rw [hq0, nI_0]; exact hl
        have hinv : fitN bu (iX t) n q = fitA bu (iX t) := by subst hq0; rw [Nat.zero_add] at hn; rw [hn]; rfl
        clear hq0
        induction n generalizing q ls with
        | zero =>
          refine lv_iload hx hb d_MM_asked_34 (lv_at hl 0 rfl) ?_
          refine lv_aload_n hx hb d_MM_asked_36 rfl (lv_at hl 1 rfl) ?_
          refine g_get hx hb hts i_MM hown hK.1 hP (show A (20, 0) = some (h, .inr (5, [.ref (ad 0), .ref (ad 1), .int (nI bu.length), .ref (ad 3), .ref (ad 4), .ref (ad 5), .ref (ad 6), .ref (ad 7), .ref (ad 8), .ref (ad 9), .ref (ad 10), .int (nI rn), .ref (ad 12), .ref (ad 13), .ref (ad 14), .ref (ad 15), .ref (ad 16), .ref (ad 17), .ref (ad 18), .ref (ad 19), .ref (ad 20), .ref (ad 21), .int (nI nn), .int (nI m1 - 1)])) from hM.1) rfl 2 (by decide) (hts _ k_445) (fun _ h9 => h9) rfl d_MM_asked_37 ?_
          refine lv_icmp_ge (tgt := 82) hx hb d_MM_asked_40 (by decide) (fun _ => ?_) (fun h9 => absurd (nI_le (show bu.length ≤ q by omega) (by omega)) h9)
          refine lv_iconst (v := 1) hx hb d_MM_asked_82 (by decide) ?_
          exact W.zret hx hb hr rfl (fun t ht _ => ⟨_, rfl, (by first | (simp_all [iAsk, bI]; done) | (simp [fitN] at hinv; simp_all [iAsk, bI]; done) | (simp_all [fitN, iAsk, bI]; done)), ht⟩) (fun _ h => nomatch h) d_MM_asked_83
        | succ n ih =>
          refine lv_iload hx hb d_MM_asked_34 (lv_at hl 0 rfl) ?_
          refine lv_aload_n hx hb d_MM_asked_36 rfl (lv_at hl 1 rfl) ?_
          refine g_get hx hb hts i_MM hown hK.1 hP (show A (20, 0) = some (h, .inr (5, [.ref (ad 0), .ref (ad 1), .int (nI bu.length), .ref (ad 3), .ref (ad 4), .ref (ad 5), .ref (ad 6), .ref (ad 7), .ref (ad 8), .ref (ad 9), .ref (ad 10), .int (nI rn), .ref (ad 12), .ref (ad 13), .ref (ad 14), .ref (ad 15), .ref (ad 16), .ref (ad 17), .ref (ad 18), .ref (ad 19), .ref (ad 20), .ref (ad 21), .int (nI nn), .int (nI m1 - 1)])) from hM.1) rfl 2 (by decide) (hts _ k_445) (fun _ h9 => h9) rfl d_MM_asked_37 ?_
          refine lv_icmp_ge (tgt := 82) hx hb d_MM_asked_40 (by decide) (fun h9 => absurd h9 (nI_ge (show q < bu.length by omega) (by omega))) (fun _ => ?_)
          refine lv_aload_n hx hb d_MM_asked_43 rfl (lv_at hl 1 rfl) ?_
          refine g_get hx hb hts i_MM hown hK.1 hP (show A (20, 0) = some (h, .inr (5, [.ref (ad 0), .ref (ad 1), .int (nI bu.length), .ref (ad 3), .ref (ad 4), .ref (ad 5), .ref (ad 6), .ref (ad 7), .ref (ad 8), .ref (ad 9), .ref (ad 10), .int (nI rn), .ref (ad 12), .ref (ad 13), .ref (ad 14), .ref (ad 15), .ref (ad 16), .ref (ad 17), .ref (ad 18), .ref (ad 19), .ref (ad 20), .ref (ad 21), .int (nI nn), .int (nI m1 - 1)])) from hM.1) rfl 0 (by decide) (hts _ k_443) (fun _ h9 => h9) rfl d_MM_asked_44 ?_
          refine lv_iload hx hb d_MM_asked_47 (lv_at hl 0 rfl) ?_
          refine g_iald (v := (bu.getD q (0, 0)).1) hx hb hK.1 hP 0 (show A (21, 0) = some (ad 0, .inl (cI, 3, .inl (F 0))) from hM.2.1 0 rfl) rfl (vp_in_nI (show q < 3 by omega) (by omega)) (by rw [(nI_clamp (show q < 2 ^ 31 by omega))]; exact (hbu q (by omega)).1) d_MM_asked_49 ?_
          refine lv_aload_n hx hb d_MM_asked_50 rfl (lv_at hl 1 rfl) ?_
          refine g_get hx hb hts i_MM hown hK.1 hP (show A (20, 0) = some (h, .inr (5, [.ref (ad 0), .ref (ad 1), .int (nI bu.length), .ref (ad 3), .ref (ad 4), .ref (ad 5), .ref (ad 6), .ref (ad 7), .ref (ad 8), .ref (ad 9), .ref (ad 10), .int (nI rn), .ref (ad 12), .ref (ad 13), .ref (ad 14), .ref (ad 15), .ref (ad 16), .ref (ad 17), .ref (ad 18), .ref (ad 19), .ref (ad 20), .ref (ad 21), .int (nI nn), .int (nI m1 - 1)])) from hM.1) rfl 1 (by decide) (hts _ k_444) (fun _ h9 => h9) rfl d_MM_asked_51 ?_
          refine lv_iload hx hb d_MM_asked_54 (lv_at hl 0 rfl) ?_
          refine g_iald (v := (bu.getD q (0, 0)).2) hx hb hK.1 hP 0 (show A (22, 0) = some (ad 1, .inl (cI, 3, .inl (F 1))) from hM.2.1 1 rfl) rfl (vp_in_nI (show q < 3 by omega) (by omega)) (by rw [(nI_clamp (show q < 2 ^ 31 by omega))]; exact (hbu q (by omega)).2) d_MM_asked_56 ?_
          refine lv_aload_n hx hb d_MM_asked_57 rfl (lv_at hl 1 rfl) ?_
          refine g_get hx hb hts i_MM hown hK.1 hP (show A (20, 0) = some (h, .inr (5, [.ref (ad 0), .ref (ad 1), .int (nI bu.length), .ref (ad 3), .ref (ad 4), .ref (ad 5), .ref (ad 6), .ref (ad 7), .ref (ad 8), .ref (ad 9), .ref (ad 10), .int (nI rn), .ref (ad 12), .ref (ad 13), .ref (ad 14), .ref (ad 15), .ref (ad 16), .ref (ad 17), .ref (ad 18), .ref (ad 19), .ref (ad 20), .ref (ad 21), .int (nI nn), .int (nI m1 - 1)])) from hM.1) rfl 15 (by decide) (hts _ k_458) (fun _ h9 => h9) rfl d_MM_asked_58 ?_
          refine lv_iconst (v := 3) hx hb d_MM_asked_61 (by decide) ?_
          refine lv_iload_n hx hb d_MM_asked_62 rfl (lv_at hl 2 rfl) ?_
          refine lv_imul hx hb d_MM_asked_63 ?_
          rw [mul3 _]
          refine lv_iload hx hb d_MM_asked_64 (lv_at hl 0 rfl) ?_
          refine lv_iadd hx hb d_MM_asked_66 ?_
          rw [nI_add _ _]
          refine g_iald (v := argP (iX t) (nI q)) hx hb hK.1 hP 0 (show A (36, 0) = some (ad 15, .inl (cI, 480, .inl (F 15))) from hM.2.1 15 rfl) rfl (vp_in_nI (show 3 * i + q < 480 by omega) (by omega)) (by rw [(nI_clamp (show 3 * i + q < 2 ^ 31 by omega))]; exact hi.2.2.1 q (by omega)) d_MM_asked_67 ?_
          refine g_ri (g_runS (As := [.int ((bu.getD q (0, 0)).1), .int ((bu.getD q (0, 0)).2), .int (argP (iX t) (nI q))]) (rest := []) ⟨hx, hb, hml, hown, hts⟩ (c_MM_fits l (k := ((bu.getD q (0, 0)).1)) (hk q (by omega)) ((bu.getD q (0, 0)).2) (argP (iX t) (nI q))) st_MM_fits k_557 ⟨rfl, rfl, by decide, by decide⟩ (gT_pre _) rfl hl.1 rfl (Nat.le_of_ble_eq_true rfl) d_MM_asked_68 ⟨by decide, by decide⟩) (fun r6 hr6 => ?_)
          subst hr6
          refine lv_if_ne (tgt := 76) hx hb d_MM_asked_71 (by decide) (fun c7 => ?_) (fun c7 => ?_)
          · skip
            rw [bI_0] at c7
            refine lv_iinc (v := nI (q + 1)) (lv' := [(4, .int (nI (q + 1))), (0, .ref h), (1, .int (nI i)), (2, .int (nI mk)), (3, .int (nI mt))]) hx hb d_MM_asked_76 hl (k := 0) rfl (nI_1 _) (by decide) rfl (fun ls hl => ?_)
            refine lv_goto (tgt := 34) hx hb d_MM_asked_79 (by decide) ?_
            exact ih _ _ (by omega) (lv_sub hl [0, 1, 2, 3, 4] rfl) (by simp_all [fitN, bI_0])
          · skip
            rw [bI_0] at c7
            refine lv_iconst (v := 0) hx hb d_MM_asked_74 (by decide) ?_
            exact W.zret hx hb hr rfl (fun t ht _ => ⟨_, rfl, (by first | (simp_all [iAsk, bI]; done) | (simp [fitN] at hinv; simp_all [iAsk, bI]; done) | (simp_all [fitN, iAsk, bI]; done)), ht⟩) (fun _ h => nomatch h) d_MM_asked_75
      · skip
        replace c3 : ¬ iMt t = mt := fun q => c3 ((nI_eq (a := iMt t) (b := mt) (by omega) (by omega)).mpr q)
        refine lv_iconst (v := 0) hx hb d_MM_asked_29 (by decide) ?_
        exact W.zret hx hb hr rfl (fun t ht _ => ⟨_, rfl, (by first | (simp_all [iAsk, bI]; done) | (simp [fitN] at hinv; simp_all [iAsk, bI]; done) | (simp_all [fitN, iAsk, bI]; done)), ht⟩) (fun _ h => nomatch h) d_MM_asked_30
theorem c_MM_usesW (l : Launch) {D : va_G} {cI cZ cO cL : ClassId} {b e0 : Nat} {A : gW} {h : Nat} {ad : Nat → Nat} {F : Nat → Nat → Int32} {G : Nat → Int64} {σ : Bk} {bn m1 gn : Nat} (hM : rMM cI cZ cL A h ad F G bn (kRs σ).length (kIs σ).length m1) (hR : mRep F G σ gn) (hw : wf σ) {r : Nat} (hr0 : r < (kRs σ).length) : Met l y_MM_uses (Cond.code y_MM_uses b_MM_uses 5 (some .int) :: TT) ({ frames := 0, cells := 0, slots := 0, locals := 0 }) (va_Pc [.ref h, .int (nI r), .int (nI (kIs σ).length)] (gI D [(cI, .int), (cZ, .boolean), (cO, .object "java/lang/Object"), (cL, .long)] b e0 A)) (vp_Si (fun z => z = nI (uUs ((kRs σ).getD r u0)))) 0 0 (fun _ => False) := by
  have w1 := hw.1
  have h := c_MM_uses (e0 := e0) (D := D) (cO := cO) (b := b) l hM (a := fun k => iRu ((kIs σ).getD k i0)) (ruLe hw) hw.2.1 (show r < 24 by omega) (fun k hk => (hR.2.2.2.2.1 k hk).2.2.2.2.2.1)
  rw [hw.2.2.2.2.2.2.2 r hr0]
  exact h
set_option maxHeartbeats 4000000 in
set_option maxRecDepth 100000 in
theorem c_MM_open (l : Launch) {D : va_G} {cI cZ cO cL : ClassId} {b e0 : Nat} {A : gW} {h : Nat} {σ : Bk} (hB : rMo cI cZ cL A h σ) (hw : wf σ) (x : Int32) : Met l y_MM_open (Cond.code y_MM_open b_MM_open 3 (some .int) :: TT) ({ frames := 0, cells := 0, slots := 0, locals := 0 }) (va_Pc [.ref h, .int x] (gI D [(cI, .int), (cZ, .boolean), (cO, .object "java/lang/Object"), (cL, .long)] b e0 A)) (vp_Si (fun y => y = sOpen σ x)) 0 0 (fun _ => False) := by
  refine Met.ofG (own := R_MM) (by decide +kernel) rfl (Nat.le_of_ble_eq_true rfl) ?_
  intro p e s m below meth c ls hx hb hr hlk hml hown hnm hts hI hl
  have hl : lv_has ls 3 [(0, .ref h), (1, .int x)] := hl
  obtain ⟨hP, hK⟩ := hI
  obtain ⟨ad, F, G, hM, hR⟩ := id hB
  obtain ⟨hb0, hru, hrz, hst, hin, hiz, hgn⟩ := id hR
  obtain ⟨w1, w2, w3, w4, w5, w6, w7, w8⟩ := id hw
  refine lv_iload_n hx hb d_MM_open_0 rfl (lv_at hl 1 rfl) ?_
  refine lv_if_lt (tgt := 9) hx hb d_MM_open_1 (by decide) (fun c1 => ?_) (fun c1 => ?_)
  · skip
    refine lv_iconst (v := (-1)) hx hb d_MM_open_9 (by decide) ?_
    exact W.iret hx hb hr (fun t ht _ => ⟨_, rfl, (by first | (rw [← hinv]; rfl) | (rw [← hinv]; simp_all [fst', qOpen]; done) | (simp_all [sOpen, inR, ← Int32.not_lt]; done)), ht⟩) (fun _ h => nomatch h) d_MM_open_10
  · skip
    refine lv_iload_n hx hb d_MM_open_4 rfl (lv_at hl 1 rfl) ?_
    refine lv_iconst (v := 3) hx hb d_MM_open_5 (by decide) ?_
    refine lv_icmp_le (tgt := 11) hx hb d_MM_open_6 (by decide) (fun c2 => ?_) (fun c2 => ?_)
    · skip
      have hin0 : inR x 0 3 = true := by simp_all [inR, ← Int32.not_lt]
      obtain ⟨mk, hmk, rfl⟩ := inR_of (M := 3) (n := 3) (by decide) hin0
      have hsp : sOpen σ (nI mk) = fst' (qOpen σ mk) (kIs σ).length 0 := by simp_all [sOpen, nI_clamp (show mk < 2 ^ 31 by omega)]
      refine lv_iconst (v := 0) hx hb d_MM_open_11 (by decide) ?_
      refine lv_istore_n (lv' := [(2, .int 0), (0, .ref h), (1, .int (nI mk))]) hx hb d_MM_open_12 rfl hl (by decide) rfl (fun ls hl => ?_)
      obtain ⟨i, hi0⟩ : ∃ z : Nat, z = 0 := ⟨_, rfl⟩
      obtain ⟨n, hn⟩ : ∃ z : Nat, i + z = (kIs σ).length := ⟨(kIs σ).length - i, by omega⟩
      replace hl : lv_has ls 3 [(2, .int (nI i)), (0, .ref h), (1, .int (nI mk))] := by rw [hi0, nI_0]; exact hl
      have hinv : fst' (qOpen σ mk) n i = sOpen σ (nI mk) := by subst hi0; rw [Nat.zero_add] at hn; rw [hn]; exact hsp.symm
      clear hi0
      induction n generalizing i ls with
      | zero =>
        refine lv_iload_n hx hb d_MM_open_13 rfl (lv_at hl 0 rfl) ?_
        refine lv_aload_n hx hb d_MM_open_14 rfl (lv_at hl 1 rfl) ?_
        refine g_get hx hb hts i_MM hown hK.1 hP (show A (20, 0) = some (h, .inr (5, [.ref (ad 0), .ref (ad 1), .int (nI ((kBu σ).length)), .ref (ad 3), .ref (ad 4), .ref (ad 5), .ref (ad 6), .ref (ad 7), .ref (ad 8), .ref (ad 9), .ref (ad 10), .int (nI ((kRs σ).length)), .ref (ad 12), .ref (ad 13), .ref (ad 14), .ref (ad 15), .ref (ad 16), .ref (ad 17), .ref (ad 18), .ref (ad 19), .ref (ad 20), .ref (ad 21), .int (nI ((kIs σ).length)), .int (nI (kMk σ) - 1)])) from hM.1) rfl 22 (by decide) (hts _ k_465) (fun _ h9 => h9) rfl d_MM_open_15 ?_
        refine lv_icmp_ge (tgt := 57) hx hb d_MM_open_18 (by decide) (fun _ => ?_) (fun h9 => absurd (nI_le (show (kIs σ).length ≤ i by omega) (by omega)) h9)
        refine lv_bipush (v := (-10)) hx hb d_MM_open_57 (by decide) ?_
        exact W.iret hx hb hr (fun t ht _ => ⟨_, rfl, (by first | (rw [← hinv]; rfl) | (rw [← hinv]; simp_all [fst', qOpen]; done) | (simp_all [sOpen, inR, ← Int32.not_lt]; done)), ht⟩) (fun _ h => nomatch h) d_MM_open_59
      | succ n ih =>
        refine lv_iload_n hx hb d_MM_open_13 rfl (lv_at hl 0 rfl) ?_
        refine lv_aload_n hx hb d_MM_open_14 rfl (lv_at hl 1 rfl) ?_
        refine g_get hx hb hts i_MM hown hK.1 hP (show A (20, 0) = some (h, .inr (5, [.ref (ad 0), .ref (ad 1), .int (nI ((kBu σ).length)), .ref (ad 3), .ref (ad 4), .ref (ad 5), .ref (ad 6), .ref (ad 7), .ref (ad 8), .ref (ad 9), .ref (ad 10), .int (nI ((kRs σ).length)), .ref (ad 12), .ref (ad 13), .ref (ad 14), .ref (ad 15), .ref (ad 16), .ref (ad 17), .ref (ad 18), .ref (ad 19), .ref (ad 20), .ref (ad 21), .int (nI ((kIs σ).length)), .int (nI (kMk σ) - 1)])) from hM.1) rfl 22 (by decide) (hts _ k_465) (fun _ h9 => h9) rfl d_MM_open_15 ?_
        refine lv_icmp_ge (tgt := 57) hx hb d_MM_open_18 (by decide) (fun h9 => absurd h9 (nI_ge (show i < (kIs σ).length by omega) (by omega))) (fun _ => ?_)
        refine lv_aload_n hx hb d_MM_open_21 rfl (lv_at hl 1 rfl) ?_
        refine g_get hx hb hts i_MM hown hK.1 hP (show A (20, 0) = some (h, .inr (5, [.ref (ad 0), .ref (ad 1), .int (nI ((kBu σ).length)), .ref (ad 3), .ref (ad 4), .ref (ad 5), .ref (ad 6), .ref (ad 7), .ref (ad 8), .ref (ad 9), .ref (ad 10), .int (nI ((kRs σ).length)), .ref (ad 12), .ref (ad 13), .ref (ad 14), .ref (ad 15), .ref (ad 16), .ref (ad 17), .ref (ad 18), .ref (ad 19), .ref (ad 20), .ref (ad 21), .int (nI ((kIs σ).length)), .int (nI (kMk σ) - 1)])) from hM.1) rfl 20 (by decide) (hts _ k_463) (fun _ h9 => h9) rfl d_MM_open_22 ?_
        refine lv_iload_n hx hb d_MM_open_25 rfl (lv_at hl 0 rfl) ?_
        obtain ⟨⟨bz5a, bz5b⟩, bz5c⟩ := w4 i (by omega)
        refine g_zald (v := bI (iLv ((kIs σ).getD i i0))) hx hb hK.1 hP 1 (show A (41, 0) = some (ad 20, .inl (cZ, 160, .inl (F 20))) from hM.2.1 20 rfl) rfl (vp_in_nI (show i < 160 by omega) (by omega)) (by rw [(nI_clamp (show i < 2 ^ 31 by omega))]; exact (hin i (by omega)).2.2.2.2.2.2.1) d_MM_open_26 ?_
        refine lv_if_eq (tgt := 51) hx hb d_MM_open_27 (by decide) (fun c6 => ?_) (fun c6 => ?_)
        · skip
          rw [bI_0] at c6
          refine lv_iinc (v := nI (i + 1)) (lv' := [(2, .int (nI (i + 1))), (0, .ref h), (1, .int (nI mk))]) hx hb d_MM_open_51 hl (k := 0) rfl (nI_1 _) (by decide) rfl (fun ls hl => ?_)
          refine lv_goto (tgt := 13) hx hb d_MM_open_54 (by decide) ?_
          exact ih _ _ (by omega) (lv_sub hl [0, 1, 2] rfl) (by simp_all [fst', qOpen])
        · skip
          rw [bI_0] at c6
          refine lv_aload_n hx hb d_MM_open_30 rfl (lv_at hl 1 rfl) ?_
          refine g_get hx hb hts i_MM hown hK.1 hP (show A (20, 0) = some (h, .inr (5, [.ref (ad 0), .ref (ad 1), .int (nI ((kBu σ).length)), .ref (ad 3), .ref (ad 4), .ref (ad 5), .ref (ad 6), .ref (ad 7), .ref (ad 8), .ref (ad 9), .ref (ad 10), .int (nI ((kRs σ).length)), .ref (ad 12), .ref (ad 13), .ref (ad 14), .ref (ad 15), .ref (ad 16), .ref (ad 17), .ref (ad 18), .ref (ad 19), .ref (ad 20), .ref (ad 21), .int (nI ((kIs σ).length)), .int (nI (kMk σ) - 1)])) from hM.1) rfl 13 (by decide) (hts _ k_456) (fun _ h9 => h9) rfl d_MM_open_31 ?_
          refine lv_iload_n hx hb d_MM_open_34 rfl (lv_at hl 0 rfl) ?_
          obtain ⟨⟨bz7a, bz7b⟩, bz7c⟩ := w4 i (by omega)
          refine g_iald (v := nI (iMk ((kIs σ).getD i i0))) hx hb hK.1 hP 0 (show A (34, 0) = some (ad 13, .inl (cI, 160, .inl (F 13))) from hM.2.1 13 rfl) rfl (vp_in_nI (show i < 160 by omega) (by omega)) (by rw [(nI_clamp (show i < 2 ^ 31 by omega))]; exact (hin i (by omega)).1) d_MM_open_35 ?_
          refine lv_iload_n hx hb d_MM_open_36 rfl (lv_at hl 2 rfl) ?_
          refine lv_icmp_ne (tgt := 51) hx hb d_MM_open_37 (by decide) (fun c8 => ?_) (fun c8 => ?_)
          · skip
            replace c8 : ¬ iMk ((kIs σ).getD i i0) = mk := fun q => c8 ((nI_eq (a := iMk ((kIs σ).getD i i0)) (b := mk) (by omega) (by omega)).mpr q)
            refine lv_iinc (v := nI (i + 1)) (lv' := [(2, .int (nI (i + 1))), (0, .ref h), (1, .int (nI mk))]) hx hb d_MM_open_51 hl (k := 0) rfl (nI_1 _) (by decide) rfl (fun ls hl => ?_)
            refine lv_goto (tgt := 13) hx hb d_MM_open_54 (by decide) ?_
            exact ih _ _ (by omega) (lv_sub hl [0, 1, 2] rfl) (by simp_all [fst', qOpen])
          · skip
            replace c8 : iMk ((kIs σ).getD i i0) = mk := (nI_eq (a := iMk ((kIs σ).getD i i0)) (b := mk) (by omega) (by omega)).mp c8
            refine lv_aload_n hx hb d_MM_open_40 rfl (lv_at hl 1 rfl) ?_
            refine g_get hx hb hts i_MM hown hK.1 hP (show A (20, 0) = some (h, .inr (5, [.ref (ad 0), .ref (ad 1), .int (nI ((kBu σ).length)), .ref (ad 3), .ref (ad 4), .ref (ad 5), .ref (ad 6), .ref (ad 7), .ref (ad 8), .ref (ad 9), .ref (ad 10), .int (nI ((kRs σ).length)), .ref (ad 12), .ref (ad 13), .ref (ad 14), .ref (ad 15), .ref (ad 16), .ref (ad 17), .ref (ad 18), .ref (ad 19), .ref (ad 20), .ref (ad 21), .int (nI ((kIs σ).length)), .int (nI (kMk σ) - 1)])) from hM.1) rfl 21 (by decide) (hts _ k_464) (fun _ h9 => h9) rfl d_MM_open_41 ?_
            refine lv_iload_n hx hb d_MM_open_44 rfl (lv_at hl 0 rfl) ?_
            obtain ⟨⟨bz9a, bz9b⟩, bz9c⟩ := w4 i (by omega)
            refine g_zald (v := bI (iVe ((kIs σ).getD i i0))) hx hb hK.1 hP 1 (show A (42, 0) = some (ad 21, .inl (cZ, 160, .inl (F 21))) from hM.2.1 21 rfl) rfl (vp_in_nI (show i < 160 by omega) (by omega)) (by rw [(nI_clamp (show i < 2 ^ 31 by omega))]; exact (hin i (by omega)).2.2.2.2.2.2.2) d_MM_open_45 ?_
            refine lv_if_ne (tgt := 51) hx hb d_MM_open_46 (by decide) (fun c10 => ?_) (fun c10 => ?_)
            · skip
              rw [bI_0] at c10
              refine lv_iinc (v := nI (i + 1)) (lv' := [(2, .int (nI (i + 1))), (0, .ref h), (1, .int (nI mk))]) hx hb d_MM_open_51 hl (k := 0) rfl (nI_1 _) (by decide) rfl (fun ls hl => ?_)
              refine lv_goto (tgt := 13) hx hb d_MM_open_54 (by decide) ?_
              exact ih _ _ (by omega) (lv_sub hl [0, 1, 2] rfl) (by simp_all [fst', qOpen])
            · skip
              rw [bI_0] at c10
              refine lv_iload_n hx hb d_MM_open_49 rfl (lv_at hl 0 rfl) ?_
              exact W.iret hx hb hr (fun t ht _ => ⟨_, rfl, (by first | (rw [← hinv]; rfl) | (rw [← hinv]; simp_all [fst', qOpen]; done) | (simp_all [sOpen, inR, ← Int32.not_lt]; done)), ht⟩) (fun _ h => nomatch h) d_MM_open_50
    · skip
      refine lv_iconst (v := (-1)) hx hb d_MM_open_9 (by decide) ?_
      exact W.iret hx hb hr (fun t ht _ => ⟨_, rfl, (by first | (rw [← hinv]; rfl) | (rw [← hinv]; simp_all [fst', qOpen]; done) | (simp_all [sOpen, inR, ← Int32.not_lt]; done)), ht⟩) (fun _ h => nomatch h) d_MM_open_10
set_option maxHeartbeats 4000000 in
set_option maxRecDepth 100000 in
theorem c_MM_noted (l : Launch) {D : va_G} {cI cZ cO cL : ClassId} {b e0 : Nat} {A : gW} {h : Nat} {σ : Bk} (hB : rMo cI cZ cL A h σ) (hw : wf σ) (x wh : Int32) : Met l y_MM_noted (Cond.code y_MM_noted b_MM_noted 3 (some .long) :: TT) ({ frames := 0, cells := 0, slots := 0, locals := 0 }) (va_Pc [.ref h, .int x, .int wh] (gI D [(cI, .int), (cZ, .boolean), (cO, .object "java/lang/Object"), (cL, .long)] b e0 A)) (vp_Sl (fun z => z = sNoted σ x wh)) 0 0 (fun _ => False) := by
  refine Met.ofG (own := R_MM) (by decide +kernel) rfl (Nat.le_of_ble_eq_true rfl) ?_
  intro p e s m below meth c ls hx hb hr hlk hml hown hnm hts hI hl
  have hl : lv_has ls 3 [(0, .ref h), (1, .int x), (2, .int wh)] := hl
  obtain ⟨hP, hK⟩ := hI
  obtain ⟨ad, F, G, hM, hR⟩ := id hB
  obtain ⟨hb0, hru, hrz, hst, hin, hiz, hgn⟩ := id hR
  obtain ⟨w1, w2, w3, w4, w5, w6, w7, w8⟩ := id hw
  refine lv_iload_n hx hb d_MM_noted_0 rfl (lv_at hl 1 rfl) ?_
  refine lv_if_lt (tgt := 12) hx hb d_MM_noted_1 (by decide) (fun c1 => ?_) (fun c1 => ?_)
  · skip
    refine lv_ldc2 (v := 60000000000) hx hb hown (hts _ k_544) d_MM_noted_12 ?_
    exact W.lret hx hb hr (fun t ht _ => ⟨_, rfl, (by unfold sNoted; rw [if_neg (by rw [inM0 c1]; decide)]; rfl), ht⟩) (fun _ h => nomatch h) d_MM_noted_15
  · skip
    refine lv_iload_n hx hb d_MM_noted_4 rfl (lv_at hl 1 rfl) ?_
    refine lv_aload_n hx hb d_MM_noted_5 rfl (lv_at hl 0 rfl) ?_
    refine g_get hx hb hts i_MM hown hK.1 hP (show A (20, 0) = some (h, .inr (5, [.ref (ad 0), .ref (ad 1), .int (nI ((kBu σ).length)), .ref (ad 3), .ref (ad 4), .ref (ad 5), .ref (ad 6), .ref (ad 7), .ref (ad 8), .ref (ad 9), .ref (ad 10), .int (nI ((kRs σ).length)), .ref (ad 12), .ref (ad 13), .ref (ad 14), .ref (ad 15), .ref (ad 16), .ref (ad 17), .ref (ad 18), .ref (ad 19), .ref (ad 20), .ref (ad 21), .int (nI ((kIs σ).length)), .int (nI (kMk σ) - 1)])) from hM.1) rfl 22 (by decide) (hts _ k_465) (fun _ h9 => h9) rfl d_MM_noted_6 ?_
    refine lv_icmp_lt (tgt := 16) hx hb d_MM_noted_9 (by decide) (fun c2 => ?_) (fun c2 => ?_)
    · skip
      obtain ⟨j, hj, rfl⟩ := inM c1 (Int32.not_le.mpr c2) (show (kIs σ).length ≤ 1000 by omega)
      have hcl := nI_clamp (show j < 2 ^ 31 by omega)
      have hjn := inN_t (show (kIs σ).length ≤ 1000 by omega) hj
      refine lv_iload_n hx hb d_MM_noted_16 rfl (lv_at hl 2 rfl) ?_
      by_cases c3 : wh = 0
      · refine lv_tableIn (off := 55) (tgt := 72) hx hb d_MM_noted_17 (by rw [c3]; decide) (by rw [c3]; decide) (by rw [c3]; rfl) (by decide) ?_
        subst c3
        refine lv_aload_n hx hb d_MM_noted_72 rfl (lv_at hl 0 rfl) ?_
        refine g_get hx hb hts i_MM hown hK.1 hP (show A (20, 0) = some (h, .inr (5, [.ref (ad 0), .ref (ad 1), .int (nI ((kBu σ).length)), .ref (ad 3), .ref (ad 4), .ref (ad 5), .ref (ad 6), .ref (ad 7), .ref (ad 8), .ref (ad 9), .ref (ad 10), .int (nI ((kRs σ).length)), .ref (ad 12), .ref (ad 13), .ref (ad 14), .ref (ad 15), .ref (ad 16), .ref (ad 17), .ref (ad 18), .ref (ad 19), .ref (ad 20), .ref (ad 21), .int (nI ((kIs σ).length)), .int (nI (kMk σ) - 1)])) from hM.1) rfl 13 (by decide) (hts _ k_456) (fun _ h9 => h9) rfl d_MM_noted_73 ?_
        refine lv_iload_n hx hb d_MM_noted_76 rfl (lv_at hl 1 rfl) ?_
        obtain ⟨⟨bz4a, bz4b⟩, bz4c⟩ := w4 j (by omega)
        refine g_iald (v := nI (iMk ((kIs σ).getD j i0))) hx hb hK.1 hP 0 (show A (34, 0) = some (ad 13, .inl (cI, 160, .inl (F 13))) from hM.2.1 13 rfl) rfl (vp_in_nI (show j < 160 by omega) (by omega)) (by rw [(nI_clamp (show j < 2 ^ 31 by omega))]; exact (hin j (by omega)).1) d_MM_noted_77 ?_
        refine lv_i2l (v := (nI (iMk ((kIs σ).getD j i0))).toInt64) hx hb d_MM_noted_78 rfl ?_
        exact W.lret hx hb hr (fun t ht _ => ⟨_, rfl, (by unfold sNoted; rw [if_pos hjn, hcl]; simp_all [notA, xNONE, bI]), ht⟩) (fun _ h => nomatch h) d_MM_noted_79
      by_cases c5 : wh = 1
      · refine lv_tableIn (off := 63) (tgt := 80) hx hb d_MM_noted_17 (by rw [c5]; decide) (by rw [c5]; decide) (by rw [c5]; rfl) (by decide) ?_
        subst c5
        refine lv_aload_n hx hb d_MM_noted_80 rfl (lv_at hl 0 rfl) ?_
        refine g_get hx hb hts i_MM hown hK.1 hP (show A (20, 0) = some (h, .inr (5, [.ref (ad 0), .ref (ad 1), .int (nI ((kBu σ).length)), .ref (ad 3), .ref (ad 4), .ref (ad 5), .ref (ad 6), .ref (ad 7), .ref (ad 8), .ref (ad 9), .ref (ad 10), .int (nI ((kRs σ).length)), .ref (ad 12), .ref (ad 13), .ref (ad 14), .ref (ad 15), .ref (ad 16), .ref (ad 17), .ref (ad 18), .ref (ad 19), .ref (ad 20), .ref (ad 21), .int (nI ((kIs σ).length)), .int (nI (kMk σ) - 1)])) from hM.1) rfl 14 (by decide) (hts _ k_457) (fun _ h9 => h9) rfl d_MM_noted_81 ?_
        refine lv_iload_n hx hb d_MM_noted_84 rfl (lv_at hl 1 rfl) ?_
        obtain ⟨⟨bz6a, bz6b⟩, bz6c⟩ := w4 j (by omega)
        refine g_iald (v := nI (iMt ((kIs σ).getD j i0))) hx hb hK.1 hP 0 (show A (35, 0) = some (ad 14, .inl (cI, 160, .inl (F 14))) from hM.2.1 14 rfl) rfl (vp_in_nI (show j < 160 by omega) (by omega)) (by rw [(nI_clamp (show j < 2 ^ 31 by omega))]; exact (hin j (by omega)).2.1) d_MM_noted_85 ?_
        refine lv_i2l (v := (nI (iMt ((kIs σ).getD j i0))).toInt64) hx hb d_MM_noted_86 rfl ?_
        exact W.lret hx hb hr (fun t ht _ => ⟨_, rfl, (by unfold sNoted; rw [if_pos hjn, hcl]; simp_all [notA, xNONE, bI]), ht⟩) (fun _ h => nomatch h) d_MM_noted_87
      by_cases c7 : wh = 2
      · refine lv_tableIn (off := 71) (tgt := 88) hx hb d_MM_noted_17 (by rw [c7]; decide) (by rw [c7]; decide) (by rw [c7]; rfl) (by decide) ?_
        subst c7
        refine lv_aload_n hx hb d_MM_noted_88 rfl (lv_at hl 0 rfl) ?_
        refine g_get hx hb hts i_MM hown hK.1 hP (show A (20, 0) = some (h, .inr (5, [.ref (ad 0), .ref (ad 1), .int (nI ((kBu σ).length)), .ref (ad 3), .ref (ad 4), .ref (ad 5), .ref (ad 6), .ref (ad 7), .ref (ad 8), .ref (ad 9), .ref (ad 10), .int (nI ((kRs σ).length)), .ref (ad 12), .ref (ad 13), .ref (ad 14), .ref (ad 15), .ref (ad 16), .ref (ad 17), .ref (ad 18), .ref (ad 19), .ref (ad 20), .ref (ad 21), .int (nI ((kIs σ).length)), .int (nI (kMk σ) - 1)])) from hM.1) rfl 15 (by decide) (hts _ k_458) (fun _ h9 => h9) rfl d_MM_noted_89 ?_
        refine lv_iconst (v := 3) hx hb d_MM_noted_92 (by decide) ?_
        refine lv_iload_n hx hb d_MM_noted_93 rfl (lv_at hl 1 rfl) ?_
        refine lv_imul hx hb d_MM_noted_94 ?_
        rw [mul3 _]
        refine lv_iload_n hx hb d_MM_noted_95 rfl (lv_at hl 2 rfl) ?_
        refine lv_iadd hx hb d_MM_noted_96 ?_
        rw [add2' _]
        refine lv_iconst (v := 2) hx hb d_MM_noted_97 (by decide) ?_
        refine lv_isub hx hb d_MM_noted_98 ?_
        rw [show nI (3 * j + 2) - 2 = nI (3 * j) from pk_sub (a := 3 * j + 2) (b := 2) (show 2 ≤ 3 * j + 2 by omega)]
        refine g_iald (v := (iX ((kIs σ).getD j i0)).1) hx hb hK.1 hP 0 (show A (36, 0) = some (ad 15, .inl (cI, 480, .inl (F 15))) from hM.2.1 15 rfl) rfl (vp_in_nI (show 3 * j < 480 by omega) (by omega)) (by rw [(nI_clamp (show 3 * j < 2 ^ 31 by omega))]; exact ((hin j (by omega)).2.2.1 0 (by omega)).trans (argP_0 _)) d_MM_noted_99 ?_
        refine lv_i2l (v := ((iX ((kIs σ).getD j i0)).1).toInt64) hx hb d_MM_noted_100 rfl ?_
        exact W.lret hx hb hr (fun t ht _ => ⟨_, rfl, (by unfold sNoted; rw [if_pos hjn, hcl]; simp_all [notA, xNONE, bI]), ht⟩) (fun _ h => nomatch h) d_MM_noted_101
      by_cases c8 : wh = 3
      · refine lv_tableIn (off := 71) (tgt := 88) hx hb d_MM_noted_17 (by rw [c8]; decide) (by rw [c8]; decide) (by rw [c8]; rfl) (by decide) ?_
        subst c8
        refine lv_aload_n hx hb d_MM_noted_88 rfl (lv_at hl 0 rfl) ?_
        refine g_get hx hb hts i_MM hown hK.1 hP (show A (20, 0) = some (h, .inr (5, [.ref (ad 0), .ref (ad 1), .int (nI ((kBu σ).length)), .ref (ad 3), .ref (ad 4), .ref (ad 5), .ref (ad 6), .ref (ad 7), .ref (ad 8), .ref (ad 9), .ref (ad 10), .int (nI ((kRs σ).length)), .ref (ad 12), .ref (ad 13), .ref (ad 14), .ref (ad 15), .ref (ad 16), .ref (ad 17), .ref (ad 18), .ref (ad 19), .ref (ad 20), .ref (ad 21), .int (nI ((kIs σ).length)), .int (nI (kMk σ) - 1)])) from hM.1) rfl 15 (by decide) (hts _ k_458) (fun _ h9 => h9) rfl d_MM_noted_89 ?_
        refine lv_iconst (v := 3) hx hb d_MM_noted_92 (by decide) ?_
        refine lv_iload_n hx hb d_MM_noted_93 rfl (lv_at hl 1 rfl) ?_
        refine lv_imul hx hb d_MM_noted_94 ?_
        rw [mul3 _]
        refine lv_iload_n hx hb d_MM_noted_95 rfl (lv_at hl 2 rfl) ?_
        refine lv_iadd hx hb d_MM_noted_96 ?_
        rw [show nI (3 * j) + 3 = nI (3 * j + 3) from nI_add _ 3]
        refine lv_iconst (v := 2) hx hb d_MM_noted_97 (by decide) ?_
        refine lv_isub hx hb d_MM_noted_98 ?_
        rw [show nI (3 * j + 3) - 2 = nI (3 * j + 1) from pk_sub (a := 3 * j + 3) (b := 2) (show 2 ≤ 3 * j + 3 by omega)]
        refine g_iald (v := (iX ((kIs σ).getD j i0)).2.1) hx hb hK.1 hP 0 (show A (36, 0) = some (ad 15, .inl (cI, 480, .inl (F 15))) from hM.2.1 15 rfl) rfl (vp_in_nI (show 3 * j + 1 < 480 by omega) (by omega)) (by rw [(nI_clamp (show 3 * j + 1 < 2 ^ 31 by omega))]; exact ((hin j (by omega)).2.2.1 1 (by omega)).trans (argP_1 _)) d_MM_noted_99 ?_
        refine lv_i2l (v := ((iX ((kIs σ).getD j i0)).2.1).toInt64) hx hb d_MM_noted_100 rfl ?_
        exact W.lret hx hb hr (fun t ht _ => ⟨_, rfl, (by unfold sNoted; rw [if_pos hjn, hcl]; simp_all [notA, xNONE, bI]), ht⟩) (fun _ h => nomatch h) d_MM_noted_101
      by_cases c9 : wh = 4
      · refine lv_tableIn (off := 71) (tgt := 88) hx hb d_MM_noted_17 (by rw [c9]; decide) (by rw [c9]; decide) (by rw [c9]; rfl) (by decide) ?_
        subst c9
        refine lv_aload_n hx hb d_MM_noted_88 rfl (lv_at hl 0 rfl) ?_
        refine g_get hx hb hts i_MM hown hK.1 hP (show A (20, 0) = some (h, .inr (5, [.ref (ad 0), .ref (ad 1), .int (nI ((kBu σ).length)), .ref (ad 3), .ref (ad 4), .ref (ad 5), .ref (ad 6), .ref (ad 7), .ref (ad 8), .ref (ad 9), .ref (ad 10), .int (nI ((kRs σ).length)), .ref (ad 12), .ref (ad 13), .ref (ad 14), .ref (ad 15), .ref (ad 16), .ref (ad 17), .ref (ad 18), .ref (ad 19), .ref (ad 20), .ref (ad 21), .int (nI ((kIs σ).length)), .int (nI (kMk σ) - 1)])) from hM.1) rfl 15 (by decide) (hts _ k_458) (fun _ h9 => h9) rfl d_MM_noted_89 ?_
        refine lv_iconst (v := 3) hx hb d_MM_noted_92 (by decide) ?_
        refine lv_iload_n hx hb d_MM_noted_93 rfl (lv_at hl 1 rfl) ?_
        refine lv_imul hx hb d_MM_noted_94 ?_
        rw [mul3 _]
        refine lv_iload_n hx hb d_MM_noted_95 rfl (lv_at hl 2 rfl) ?_
        refine lv_iadd hx hb d_MM_noted_96 ?_
        rw [show nI (3 * j) + 4 = nI (3 * j + 4) from nI_add _ 4]
        refine lv_iconst (v := 2) hx hb d_MM_noted_97 (by decide) ?_
        refine lv_isub hx hb d_MM_noted_98 ?_
        rw [show nI (3 * j + 4) - 2 = nI (3 * j + 2) from pk_sub (a := 3 * j + 4) (b := 2) (show 2 ≤ 3 * j + 4 by omega)]
        refine g_iald (v := (iX ((kIs σ).getD j i0)).2.2) hx hb hK.1 hP 0 (show A (36, 0) = some (ad 15, .inl (cI, 480, .inl (F 15))) from hM.2.1 15 rfl) rfl (vp_in_nI (show 3 * j + 2 < 480 by omega) (by omega)) (by rw [(nI_clamp (show 3 * j + 2 < 2 ^ 31 by omega))]; exact ((hin j (by omega)).2.2.1 2 (by omega)).trans (argP_2 _)) d_MM_noted_99 ?_
        refine lv_i2l (v := ((iX ((kIs σ).getD j i0)).2.2).toInt64) hx hb d_MM_noted_100 rfl ?_
        exact W.lret hx hb hr (fun t ht _ => ⟨_, rfl, (by unfold sNoted; rw [if_pos hjn, hcl]; simp_all [notA, xNONE, bI]), ht⟩) (fun _ h => nomatch h) d_MM_noted_101
      by_cases c10 : wh = 5
      · refine lv_tableIn (off := 85) (tgt := 102) hx hb d_MM_noted_17 (by rw [c10]; decide) (by rw [c10]; decide) (by rw [c10]; rfl) (by decide) ?_
        subst c10
        refine lv_aload_n hx hb d_MM_noted_102 rfl (lv_at hl 0 rfl) ?_
        refine g_get hx hb hts i_MM hown hK.1 hP (show A (20, 0) = some (h, .inr (5, [.ref (ad 0), .ref (ad 1), .int (nI ((kBu σ).length)), .ref (ad 3), .ref (ad 4), .ref (ad 5), .ref (ad 6), .ref (ad 7), .ref (ad 8), .ref (ad 9), .ref (ad 10), .int (nI ((kRs σ).length)), .ref (ad 12), .ref (ad 13), .ref (ad 14), .ref (ad 15), .ref (ad 16), .ref (ad 17), .ref (ad 18), .ref (ad 19), .ref (ad 20), .ref (ad 21), .int (nI ((kIs σ).length)), .int (nI (kMk σ) - 1)])) from hM.1) rfl 16 (by decide) (hts _ k_459) (fun _ h9 => h9) rfl d_MM_noted_103 ?_
        refine lv_iload_n hx hb d_MM_noted_106 rfl (lv_at hl 1 rfl) ?_
        obtain ⟨⟨bz11a, bz11b⟩, bz11c⟩ := w4 j (by omega)
        refine g_iald (v := nI (iDp ((kIs σ).getD j i0))) hx hb hK.1 hP 0 (show A (37, 0) = some (ad 16, .inl (cI, 160, .inl (F 16))) from hM.2.1 16 rfl) rfl (vp_in_nI (show j < 160 by omega) (by omega)) (by rw [(nI_clamp (show j < 2 ^ 31 by omega))]; exact (hin j (by omega)).2.2.2.1) d_MM_noted_107 ?_
        refine lv_i2l (v := (nI (iDp ((kIs σ).getD j i0))).toInt64) hx hb d_MM_noted_108 rfl ?_
        exact W.lret hx hb hr (fun t ht _ => ⟨_, rfl, (by unfold sNoted; rw [if_pos hjn, hcl]; simp_all [notA, xNONE, bI]), ht⟩) (fun _ h => nomatch h) d_MM_noted_109
      by_cases c12 : wh = 6
      · refine lv_tableIn (off := 93) (tgt := 110) hx hb d_MM_noted_17 (by rw [c12]; decide) (by rw [c12]; decide) (by rw [c12]; rfl) (by decide) ?_
        subst c12
        refine lv_aload_n hx hb d_MM_noted_110 rfl (lv_at hl 0 rfl) ?_
        refine g_get hx hb hts i_MM hown hK.1 hP (show A (20, 0) = some (h, .inr (5, [.ref (ad 0), .ref (ad 1), .int (nI ((kBu σ).length)), .ref (ad 3), .ref (ad 4), .ref (ad 5), .ref (ad 6), .ref (ad 7), .ref (ad 8), .ref (ad 9), .ref (ad 10), .int (nI ((kRs σ).length)), .ref (ad 12), .ref (ad 13), .ref (ad 14), .ref (ad 15), .ref (ad 16), .ref (ad 17), .ref (ad 18), .ref (ad 19), .ref (ad 20), .ref (ad 21), .int (nI ((kIs σ).length)), .int (nI (kMk σ) - 1)])) from hM.1) rfl 17 (by decide) (hts _ k_460) (fun _ h9 => h9) rfl d_MM_noted_111 ?_
        refine lv_iload_n hx hb d_MM_noted_114 rfl (lv_at hl 1 rfl) ?_
        obtain ⟨⟨bz13a, bz13b⟩, bz13c⟩ := w4 j (by omega)
        refine g_iald (v := iFr ((kIs σ).getD j i0)) hx hb hK.1 hP 0 (show A (38, 0) = some (ad 17, .inl (cI, 160, .inl (F 17))) from hM.2.1 17 rfl) rfl (vp_in_nI (show j < 160 by omega) (by omega)) (by rw [(nI_clamp (show j < 2 ^ 31 by omega))]; exact (hin j (by omega)).2.2.2.2.1) d_MM_noted_115 ?_
        refine lv_i2l (v := (iFr ((kIs σ).getD j i0)).toInt64) hx hb d_MM_noted_116 rfl ?_
        exact W.lret hx hb hr (fun t ht _ => ⟨_, rfl, (by unfold sNoted; rw [if_pos hjn, hcl]; simp_all [notA, xNONE, bI]), ht⟩) (fun _ h => nomatch h) d_MM_noted_117
      by_cases c14 : wh = 7
      · refine lv_tableIn (off := 101) (tgt := 118) hx hb d_MM_noted_17 (by rw [c14]; decide) (by rw [c14]; decide) (by rw [c14]; rfl) (by decide) ?_
        subst c14
        refine lv_aload_n hx hb d_MM_noted_118 rfl (lv_at hl 0 rfl) ?_
        refine g_get hx hb hts i_MM hown hK.1 hP (show A (20, 0) = some (h, .inr (5, [.ref (ad 0), .ref (ad 1), .int (nI ((kBu σ).length)), .ref (ad 3), .ref (ad 4), .ref (ad 5), .ref (ad 6), .ref (ad 7), .ref (ad 8), .ref (ad 9), .ref (ad 10), .int (nI ((kRs σ).length)), .ref (ad 12), .ref (ad 13), .ref (ad 14), .ref (ad 15), .ref (ad 16), .ref (ad 17), .ref (ad 18), .ref (ad 19), .ref (ad 20), .ref (ad 21), .int (nI ((kIs σ).length)), .int (nI (kMk σ) - 1)])) from hM.1) rfl 21 (by decide) (hts _ k_464) (fun _ h9 => h9) rfl d_MM_noted_119 ?_
        refine lv_iload_n hx hb d_MM_noted_122 rfl (lv_at hl 1 rfl) ?_
        obtain ⟨⟨bz15a, bz15b⟩, bz15c⟩ := w4 j (by omega)
        refine g_zald (v := bI (iVe ((kIs σ).getD j i0))) hx hb hK.1 hP 1 (show A (42, 0) = some (ad 21, .inl (cZ, 160, .inl (F 21))) from hM.2.1 21 rfl) rfl (vp_in_nI (show j < 160 by omega) (by omega)) (by rw [(nI_clamp (show j < 2 ^ 31 by omega))]; exact (hin j (by omega)).2.2.2.2.2.2.2) d_MM_noted_123 ?_
        refine lv_if_eq (tgt := 131) hx hb d_MM_noted_124 (by decide) (fun c16 => ?_) (fun c16 => ?_)
        · skip
          rw [bI_0] at c16
          refine lv_lconst (v := 0) hx hb d_MM_noted_131 (by decide) ?_
          exact W.lret hx hb hr (fun t ht _ => ⟨_, rfl, (by unfold sNoted; rw [if_pos hjn, hcl]; simp_all [notA, xNONE, bI]), ht⟩) (fun _ h => nomatch h) d_MM_noted_132
        · skip
          rw [bI_0] at c16
          refine lv_lconst (v := 1) hx hb d_MM_noted_127 (by decide) ?_
          refine lv_goto (tgt := 132) hx hb d_MM_noted_128 (by decide) ?_
          exact W.lret hx hb hr (fun t ht _ => ⟨_, rfl, (by unfold sNoted; rw [if_pos hjn, hcl]; simp_all [notA, xNONE, bI]), ht⟩) (fun _ h => nomatch h) d_MM_noted_132
      by_cases c17 : wh = 8
      · refine lv_tableIn (off := 116) (tgt := 133) hx hb d_MM_noted_17 (by rw [c17]; decide) (by rw [c17]; decide) (by rw [c17]; rfl) (by decide) ?_
        subst c17
        refine lv_aload_n hx hb d_MM_noted_133 rfl (lv_at hl 0 rfl) ?_
        refine g_get hx hb hts i_MM hown hK.1 hP (show A (20, 0) = some (h, .inr (5, [.ref (ad 0), .ref (ad 1), .int (nI ((kBu σ).length)), .ref (ad 3), .ref (ad 4), .ref (ad 5), .ref (ad 6), .ref (ad 7), .ref (ad 8), .ref (ad 9), .ref (ad 10), .int (nI ((kRs σ).length)), .ref (ad 12), .ref (ad 13), .ref (ad 14), .ref (ad 15), .ref (ad 16), .ref (ad 17), .ref (ad 18), .ref (ad 19), .ref (ad 20), .ref (ad 21), .int (nI ((kIs σ).length)), .int (nI (kMk σ) - 1)])) from hM.1) rfl 18 (by decide) (hts _ k_461) (fun _ h9 => h9) rfl d_MM_noted_134 ?_
        refine lv_iload_n hx hb d_MM_noted_137 rfl (lv_at hl 1 rfl) ?_
        obtain ⟨⟨bz18a, bz18b⟩, bz18c⟩ := w4 j (by omega)
        refine g_iald (v := nI (iRu ((kIs σ).getD j i0)) - 1) hx hb hK.1 hP 0 (show A (39, 0) = some (ad 18, .inl (cI, 160, .inl (F 18))) from hM.2.1 18 rfl) rfl (vp_in_nI (show j < 160 by omega) (by omega)) (by rw [(nI_clamp (show j < 2 ^ 31 by omega))]; exact (hin j (by omega)).2.2.2.2.2.1) d_MM_noted_138 ?_
        refine lv_i2l (v := (nI (iRu ((kIs σ).getD j i0)) - 1).toInt64) hx hb d_MM_noted_139 rfl ?_
        exact W.lret hx hb hr (fun t ht _ => ⟨_, rfl, (by unfold sNoted; rw [if_pos hjn, hcl]; simp_all [notA, xNONE, bI]), ht⟩) (fun _ h => nomatch h) d_MM_noted_140
      by_cases c19 : wh = 9
      · refine lv_tableIn (off := 124) (tgt := 141) hx hb d_MM_noted_17 (by rw [c19]; decide) (by rw [c19]; decide) (by rw [c19]; rfl) (by decide) ?_
        subst c19
        refine lv_aload_n hx hb d_MM_noted_141 rfl (lv_at hl 0 rfl) ?_
        refine g_get hx hb hts i_MM hown hK.1 hP (show A (20, 0) = some (h, .inr (5, [.ref (ad 0), .ref (ad 1), .int (nI ((kBu σ).length)), .ref (ad 3), .ref (ad 4), .ref (ad 5), .ref (ad 6), .ref (ad 7), .ref (ad 8), .ref (ad 9), .ref (ad 10), .int (nI ((kRs σ).length)), .ref (ad 12), .ref (ad 13), .ref (ad 14), .ref (ad 15), .ref (ad 16), .ref (ad 17), .ref (ad 18), .ref (ad 19), .ref (ad 20), .ref (ad 21), .int (nI ((kIs σ).length)), .int (nI (kMk σ) - 1)])) from hM.1) rfl 20 (by decide) (hts _ k_463) (fun _ h9 => h9) rfl d_MM_noted_142 ?_
        refine lv_iload_n hx hb d_MM_noted_145 rfl (lv_at hl 1 rfl) ?_
        obtain ⟨⟨bz20a, bz20b⟩, bz20c⟩ := w4 j (by omega)
        refine g_zald (v := bI (iLv ((kIs σ).getD j i0))) hx hb hK.1 hP 1 (show A (41, 0) = some (ad 20, .inl (cZ, 160, .inl (F 20))) from hM.2.1 20 rfl) rfl (vp_in_nI (show j < 160 by omega) (by omega)) (by rw [(nI_clamp (show j < 2 ^ 31 by omega))]; exact (hin j (by omega)).2.2.2.2.2.2.1) d_MM_noted_146 ?_
        refine lv_if_eq (tgt := 154) hx hb d_MM_noted_147 (by decide) (fun c21 => ?_) (fun c21 => ?_)
        · skip
          rw [bI_0] at c21
          refine lv_lconst (v := 0) hx hb d_MM_noted_154 (by decide) ?_
          exact W.lret hx hb hr (fun t ht _ => ⟨_, rfl, (by unfold sNoted; rw [if_pos hjn, hcl]; simp_all [notA, xNONE, bI]), ht⟩) (fun _ h => nomatch h) d_MM_noted_155
        · skip
          rw [bI_0] at c21
          refine lv_lconst (v := 1) hx hb d_MM_noted_150 (by decide) ?_
          refine lv_goto (tgt := 155) hx hb d_MM_noted_151 (by decide) ?_
          exact W.lret hx hb hr (fun t ht _ => ⟨_, rfl, (by unfold sNoted; rw [if_pos hjn, hcl]; simp_all [notA, xNONE, bI]), ht⟩) (fun _ h => nomatch h) d_MM_noted_155
      refine lv_tableOut (tgt := 156) hx hb d_MM_noted_17 (by have q0 := lv_neT c3 (show (0 : Int32).toInt = 0 by decide); have q1 := lv_neT c5 (show (1 : Int32).toInt = 1 by decide); have q2 := lv_neT c7 (show (2 : Int32).toInt = 2 by decide); have q3 := lv_neT c8 (show (3 : Int32).toInt = 3 by decide); have q4 := lv_neT c9 (show (4 : Int32).toInt = 4 by decide); have q5 := lv_neT c10 (show (5 : Int32).toInt = 5 by decide); have q6 := lv_neT c12 (show (6 : Int32).toInt = 6 by decide); have q7 := lv_neT c14 (show (7 : Int32).toInt = 7 by decide); have q8 := lv_neT c17 (show (8 : Int32).toInt = 8 by decide); have q9 := lv_neT c19 (show (9 : Int32).toInt = 9 by decide); omega) (by decide) ?_
      refine lv_ldc2 (v := 60000000000) hx hb hown (hts _ k_544) d_MM_noted_156 ?_
      exact W.lret hx hb hr (fun t ht _ => ⟨_, rfl, (by unfold sNoted; rw [if_pos hjn, hcl]; simp_all [notA, xNONE, bI]), ht⟩) (fun _ h => nomatch h) d_MM_noted_159
    · skip
      refine lv_ldc2 (v := 60000000000) hx hb hown (hts _ k_544) d_MM_noted_12 ?_
      exact W.lret hx hb hr (fun t ht _ => ⟨_, rfl, (by unfold sNoted; rw [if_neg (by rw [inM1 (Int32.not_lt.mp c2) (by omega)]; decide)]; rfl), ht⟩) (fun _ h => nomatch h) d_MM_noted_15
set_option maxHeartbeats 4000000 in
set_option maxRecDepth 100000 in
theorem c_MM_answer (l : Launch) {D : va_G} {cI cZ cO cL : ClassId} {b e0 : Nat} {A : gW} {h : Nat} {σ : Bk} (hB : rMo cI cZ cL A h σ) (hw : wf σ) (x : Int32) : Met l y_MM_answer (Cond.code y_MM_answer b_MM_answer 2 (some .long) :: TT) ({ frames := 0, cells := 0, slots := 0, locals := 0 }) (va_Pc [.ref h, .int x] (gI D [(cI, .int), (cZ, .boolean), (cO, .object "java/lang/Object"), (cL, .long)] b e0 A)) (vp_Sl (fun z => z = sAnswer σ x)) 0 0 (fun _ => False) := by
  refine Met.ofG (own := R_MM) (by decide +kernel) rfl (Nat.le_of_ble_eq_true rfl) ?_
  intro p e s m below meth c ls hx hb hr hlk hml hown hnm hts hI hl
  have hl : lv_has ls 2 [(0, .ref h), (1, .int x)] := hl
  obtain ⟨hP, hK⟩ := hI
  obtain ⟨ad, F, G, hM, hR⟩ := id hB
  obtain ⟨hb0, hru, hrz, hst, hin, hiz, hgn⟩ := id hR
  obtain ⟨w1, w2, w3, w4, w5, w6, w7, w8⟩ := id hw
  refine lv_iload_n hx hb d_MM_answer_0 rfl (lv_at hl 1 rfl) ?_
  refine lv_if_lt (tgt := 12) hx hb d_MM_answer_1 (by decide) (fun c1 => ?_) (fun c1 => ?_)
  · skip
    refine lv_ldc2 (v := 60000000000) hx hb hown (hts _ k_544) d_MM_answer_12 ?_
    refine lv_goto (tgt := 24) hx hb d_MM_answer_15 (by decide) ?_
    exact W.lret hx hb hr (fun t ht _ => ⟨_, rfl, (by unfold sAnswer; rw [if_neg (by rw [inM0 c1]; decide)]; rfl), ht⟩) (fun _ h => nomatch h) d_MM_answer_24
  · skip
    refine lv_iload_n hx hb d_MM_answer_4 rfl (lv_at hl 1 rfl) ?_
    refine lv_aload_n hx hb d_MM_answer_5 rfl (lv_at hl 0 rfl) ?_
    refine g_get hx hb hts i_MM hown hK.1 hP (show A (20, 0) = some (h, .inr (5, [.ref (ad 0), .ref (ad 1), .int (nI ((kBu σ).length)), .ref (ad 3), .ref (ad 4), .ref (ad 5), .ref (ad 6), .ref (ad 7), .ref (ad 8), .ref (ad 9), .ref (ad 10), .int (nI ((kRs σ).length)), .ref (ad 12), .ref (ad 13), .ref (ad 14), .ref (ad 15), .ref (ad 16), .ref (ad 17), .ref (ad 18), .ref (ad 19), .ref (ad 20), .ref (ad 21), .int (nI ((kIs σ).length)), .int (nI (kMk σ) - 1)])) from hM.1) rfl 22 (by decide) (hts _ k_465) (fun _ h9 => h9) rfl d_MM_answer_6 ?_
    refine lv_icmp_lt (tgt := 18) hx hb d_MM_answer_9 (by decide) (fun c2 => ?_) (fun c2 => ?_)
    · skip
      obtain ⟨j, hj, rfl⟩ := inM c1 (Int32.not_le.mpr c2) (show (kIs σ).length ≤ 1000 by omega)
      have hcl := nI_clamp (show j < 2 ^ 31 by omega)
      have hjn := inN_t (show (kIs σ).length ≤ 1000 by omega) hj
      refine lv_aload_n hx hb d_MM_answer_18 rfl (lv_at hl 0 rfl) ?_
      refine g_get hx hb hts i_MM hown hK.1 hP (show A (20, 0) = some (h, .inr (5, [.ref (ad 0), .ref (ad 1), .int (nI ((kBu σ).length)), .ref (ad 3), .ref (ad 4), .ref (ad 5), .ref (ad 6), .ref (ad 7), .ref (ad 8), .ref (ad 9), .ref (ad 10), .int (nI ((kRs σ).length)), .ref (ad 12), .ref (ad 13), .ref (ad 14), .ref (ad 15), .ref (ad 16), .ref (ad 17), .ref (ad 18), .ref (ad 19), .ref (ad 20), .ref (ad 21), .int (nI ((kIs σ).length)), .int (nI (kMk σ) - 1)])) from hM.1) rfl 19 (by decide) (hts _ k_462) (fun _ h9 => h9) rfl d_MM_answer_19 ?_
      refine lv_iload_n hx hb d_MM_answer_22 rfl (lv_at hl 1 rfl) ?_
      refine g_lald (v := iAn ((kIs σ).getD j i0)) hx hb hK.1 hP 3 (show A (40, 0) = some (ad 19, .inl (cL, 160, .inr (.inl G))) from hM.2.2) rfl (vp_in_nI (show j < 160 by omega) (by omega)) (by rw [(nI_clamp (show j < 2 ^ 31 by omega))]; exact hgn j (by omega)) d_MM_answer_23 ?_
      exact W.lret hx hb hr (fun t ht _ => ⟨_, rfl, (by unfold sAnswer; rw [if_pos hjn, hcl]), ht⟩) (fun _ h => nomatch h) d_MM_answer_24
    · skip
      refine lv_ldc2 (v := 60000000000) hx hb hown (hts _ k_544) d_MM_answer_12 ?_
      refine lv_goto (tgt := 24) hx hb d_MM_answer_15 (by decide) ?_
      exact W.lret hx hb hr (fun t ht _ => ⟨_, rfl, (by unfold sAnswer; rw [if_neg (by rw [inM1 (Int32.not_lt.mp c2) (by omega)]; decide)]; rfl), ht⟩) (fun _ h => nomatch h) d_MM_answer_24
end
section
/-! What the reference's writes do to the book that its cells hold. -/
theorem mRep.bu0 {F : Nat → Nat → Int32} {G : Nat → Int64} {σ : Bk} {gn m : Nat} (hR : mRep F G σ gn) : mRep F G (kRs σ, kIs σ, kSt σ, [], m) gn :=
  ⟨fun j hj => absurd hj (Nat.not_lt_zero j), hR.2⟩
theorem mRep.mat {F : Nat → Nat → Int32} {G : Nat → Int64} {σ : Bk} {gn : Nat} {k v : Int32} (hR : mRep F G σ gn) : mRep (va_up (va_up F 0 (upd (F 0) (kBu σ).length k)) 1 (upd (F 1) (kBu σ).length v)) G (kRs σ, kIs σ, kSt σ, kBu σ ++ [(k, v)], kMk σ) gn :=
  ⟨fun _ hj => snocA hR.1 hj, hR.2⟩
theorem mRep.st {F : Nat → Nat → Int32} {G : Nat → Int64} {σ : Bk} {gn j : Nat} {v : Bool} (hR : mRep F G σ gn) : mRep (va_up F 12 (upd (F 12) j (bI v))) G (kRs σ, kIs σ, va_up (kSt σ) j v, kBu σ, kMk σ) gn := by
  refine ⟨hR.1, hR.2.1, hR.2.2.1, fun i hi => ?_, hR.2.2.2.2⟩
  show upd (F 12) j (bI v) i = bI (va_up (kSt σ) j v i)
  unfold upd va_up
  by_cases h : i = j
  · rw [if_pos h, if_pos h]
  · rw [if_neg h, if_neg h]
    exact hR.2.2.2.1 i hi
/-- an interaction's cells change -/
theorem mRep.it {F F' : Nat → Nat → Int32} {G : Nat → Int64} {σ : Bk} {gn i : Nat} {t : It} (hR : mRep F G σ gn) (hi : i < (kIs σ).length) (hlo : ∀ k, k ≤ 12 → F' k = F k) (hk : ∀ k j, j ≠ i → k = 13 ∨ k = 14 ∨ k = 16 ∨ k = 17 ∨ k = 18 ∨ k = 20 ∨ k = 21 → F' k j = F k j) (h15 : F' 15 = F 15) (ht : mIn F' i t) (ha : iAn t = iAn ((kIs σ).getD i i0)) : mRep F' G (kRs σ, (kIs σ).set i t, kSt σ, kBu σ, kMk σ) gn := by
  obtain ⟨r0, r1, r2, r3, r4, r5, r6⟩ := hR
  refine ⟨fun j hj => ?_, fun j hj => ?_, fun j h1 h2 => ?_, fun j hj => ?_, fun j hj => ?_, fun j h1 h2 => ?_, fun j hj => ?_⟩
  · rw [hlo 0 (by omega), hlo 1 (by omega)]; exact r0 j hj
  · have := r1 j hj
    unfold mRu at this ⊢
    rw [hlo 3 (by omega), hlo 4 (by omega), hlo 5 (by omega), hlo 6 (by omega), hlo 7 (by omega), hlo 8 (by omega), hlo 9 (by omega), hlo 10 (by omega)]; exact this
  · rw [hlo 10 (by omega)]; exact r2 j h1 h2
  · rw [hlo 12 (by omega)]; exact r3 j hj
  · have hj' : j < (kIs σ).length := by have h9 : j < ((kIs σ).set i t).length := hj; rw [List.length_set] at h9; exact h9
    show mIn F' j (((kIs σ).set i t).getD j i0)
    rw [getD_set hi]
    by_cases e : j = i
    · rw [if_pos e, e]; exact ht
    · rw [if_neg e]
      have := r4 j hj'
      unfold mIn at this ⊢
      rw [hk 13 j e (by omega), hk 14 j e (by omega), hk 16 j e (by omega), hk 17 j e (by omega), hk 18 j e (by omega), hk 20 j e (by omega), hk 21 j e (by omega), h15]
      exact this
  · have h1' : (kIs σ).length ≤ j := by have h9 : ((kIs σ).set i t).length ≤ j := h1; rw [List.length_set] at h9; exact h9
    rw [hk 21 j (by omega) (by omega)]; exact r5 j h1' h2
  · show G j = iAn (((kIs σ).set i t).getD j i0)
    rw [getD_set hi]
    by_cases e : j = i
    · rw [if_pos e, ha, ← e]; exact r6 j hj
    · rw [if_neg e]; exact r6 j hj
theorem up_ne {F : Nat → Nat → Int32} {a : Nat} {f : Nat → Int32} {k : Nat} (h : k ≠ a) : va_up F a f k = F k := if_neg h
theorem up_at {F : Nat → Nat → Int32} {a i : Nat} {v : Int32} {k j : Nat} (h : j ≠ i) : va_up F a (upd (F a) i v) k j = F k j := by
  by_cases e : k = a
  · rw [e, va_up_self, pk_un h]
  · rw [up_ne e]
theorem mRep.ver {F : Nat → Nat → Int32} {G : Nat → Int64} {σ : Bk} {gn i : Nat} (hR : mRep F G σ gn) (hi : i < (kIs σ).length) : mRep (va_up F 21 (upd (F 21) i 1)) G (kRs σ, (kIs σ).set i (iVer ((kIs σ).getD i i0)), kSt σ, kBu σ, kMk σ) gn := by
  refine hR.it hi (fun k hk => up_ne (by omega)) (fun k j hj _ => up_at hj) rfl ?_ rfl
  obtain ⟨a1, a2, a3, a4, a5, a6, a7, a8⟩ := hR.2.2.2.2.1 i hi
  exact ⟨a1, a2, a3, a4, a5, a6, a7, pk_us⟩
theorem mRep.endI {F : Nat → Nat → Int32} {G : Nat → Int64} {σ : Bk} {gn i : Nat} (hR : mRep F G σ gn) (hi : i < (kIs σ).length) : mRep (va_up F 20 (upd (F 20) i 0)) G (kRs σ, (kIs σ).set i (iEnd ((kIs σ).getD i i0)), kSt σ, kBu σ, kMk σ) gn := by
  refine hR.it hi (fun k hk => up_ne (by omega)) (fun k j hj _ => up_at hj) rfl ?_ rfl
  obtain ⟨a1, a2, a3, a4, a5, a6, a7, a8⟩ := hR.2.2.2.2.1 i hi
  exact ⟨a1, a2, a3, a4, a5, a6, pk_us, a8⟩
/-- a rule's cells change -/
theorem mRep.ru {F F' : Nat → Nat → Int32} {G : Nat → Int64} {σ : Bk} {gn i : Nat} {r : Ru} (hR : mRep F G σ gn) (hi : i < (kRs σ).length) (hl24 : (kRs σ).length ≤ 24) (h01 : F' 0 = F 0 ∧ F' 1 = F 1) (hhi : ∀ k, 12 ≤ k → F' k = F k) (hk : ∀ k j, j ≠ i → k = 3 ∨ k = 4 ∨ k = 5 ∨ k = 10 → F' k j = F k j) (h67 : F' 6 = F 6 ∧ F' 7 = F 7) (h89 : ∀ j q, j ≠ i → q < 4 → F' 8 (4 * j + q) = F 8 (4 * j + q) ∧ F' 9 (4 * j + q) = F 9 (4 * j + q)) (hl4 : ∀ j, j < (kRs σ).length → (uAc ((kRs σ).getD j u0)).length ≤ 4) (hr : mRu F' i r) : mRep F' G ((kRs σ).set i r, kIs σ, kSt σ, kBu σ, kMk σ) gn := by
  obtain ⟨r0, r1, r2, r3, r4, r5, r6⟩ := hR
  refine ⟨fun j hj => ?_, fun j hj => ?_, fun j h1 h2 => ?_, fun j hj => ?_, fun j hj => ?_, fun j h1 h2 => ?_, r6⟩
  · rw [h01.1, h01.2]; exact r0 j hj
  · have hj' : j < (kRs σ).length := by have h9 : j < ((kRs σ).set i r).length := hj; rw [List.length_set] at h9; exact h9
    show mRu F' j (((kRs σ).set i r).getD j u0)
    rw [getD_set hi]
    by_cases e : j = i
    · rw [if_pos e, e]; exact hr
    · rw [if_neg e]
      obtain ⟨a1, a2, a3, a4, a5, a6⟩ := r1 j hj'
      refine ⟨?_, ?_, ?_, ?_, ?_, fun q hq => ?_⟩
      · rw [hk 3 j e (by omega)]; exact a1
      · rw [hk 4 j e (by omega)]; exact a2
      · rw [hk 5 j e (by omega)]; exact a3
      · rw [hk 10 j e (by omega)]; exact a4
      · rw [h67.1, h67.2]; exact a5
      · have := hl4 j hj'
        have h9 := h89 j q e (by omega)
        rw [h9.1, h9.2]; exact a6 q hq
  · have h1' : (kRs σ).length ≤ j := by have h9 : ((kRs σ).set i r).length ≤ j := h1; rw [List.length_set] at h9; exact h9
    rw [hk 10 j (by omega) (by omega)]; exact r2 j h1' h2
  · rw [hhi 12 (by omega)]; exact r3 j hj
  · have := r4 j hj
    unfold mIn at this ⊢
    rw [hhi 13 (by omega), hhi 14 (by omega), hhi 15 (by omega), hhi 16 (by omega), hhi 17 (by omega), hhi 18 (by omega), hhi 20 (by omega), hhi 21 (by omega)]
    exact this
  · rw [hhi 21 (by omega)]; exact r5 j h1 h2
theorem wf.l4 {σ : Bk} (hw : wf σ) : ∀ j, j < (kRs σ).length → (uAc ((kRs σ).getD j u0)).length ≤ 4 := fun j hj => (hw.2.2.1 j hj).2.2.2.2.1
theorem mRep.endR {F : Nat → Nat → Int32} {G : Nat → Int64} {σ : Bk} {gn i : Nat} (hR : mRep F G σ gn) (hi : i < (kRs σ).length) (hl24 : (kRs σ).length ≤ 24) (hl4 : ∀ j, j < (kRs σ).length → (uAc ((kRs σ).getD j u0)).length ≤ 4) : mRep (va_up F 5 (upd (F 5) i 0)) G ((kRs σ).set i (uEnd ((kRs σ).getD i u0)), kIs σ, kSt σ, kBu σ, kMk σ) gn := by
  refine hR.ru hi hl24 ⟨rfl, rfl⟩ (fun k hk => up_ne (by omega)) (fun k j hj _ => up_at hj) ⟨rfl, rfl⟩ (fun _ _ _ _ => ⟨rfl, rfl⟩) hl4 ?_
  obtain ⟨a1, a2, a3, a4, a5, a6⟩ := hR.2.1 i hi
  exact ⟨a1, a2, pk_us, a4, a5, a6⟩
theorem mRep.use {F : Nat → Nat → Int32} {G : Nat → Int64} {σ : Bk} {gn i : Nat} (hR : mRep F G σ gn) (hi : i < (kRs σ).length) : mRep F G ((kRs σ).set i (uUse ((kRs σ).getD i u0)), kIs σ, kSt σ, kBu σ, kMk σ) gn := by
  obtain ⟨r0, r1, r2, r3, r4, r5, r6⟩ := hR
  refine ⟨r0, fun j hj => ?_, fun j h1 h2 => r2 j (by have h9 : ((kRs σ).set i (uUse ((kRs σ).getD i u0))).length ≤ j := h1; rw [List.length_set] at h9; exact h9) h2, r3, r4, r5, r6⟩
  have hj' : j < (kRs σ).length := by have h9 : j < ((kRs σ).set i (uUse ((kRs σ).getD i u0))).length := hj; rw [List.length_set] at h9; exact h9
  show mRu F j (((kRs σ).set i (uUse ((kRs σ).getD i u0))).getD j u0)
  rw [getD_set hi]
  by_cases e : j = i
  · rw [if_pos e, e]; exact r1 i hi
  · rw [if_neg e]; exact r1 j hj'
theorem mRep.act {F : Nat → Nat → Int32} {G : Nat → Int64} {σ : Bk} {gn j : Nat} {k v : Int32} (hR : mRep F G σ gn) (hw : wf σ) (hj : j < (kRs σ).length) (h4 : (uAc ((kRs σ).getD j u0)).length < 4) : mRep (va_up (va_up (va_up F 8 (upd (F 8) (4 * j + (uAc ((kRs σ).getD j u0)).length) k)) 9 (upd (F 9) (4 * j + (uAc ((kRs σ).getD j u0)).length) v)) 10 (upd (F 10) j (nI ((uAc ((kRs σ).getD j u0)).length + 1)))) G ((kRs σ).set j (uAdd ((kRs σ).getD j u0) k v), kIs σ, kSt σ, kBu σ, kMk σ) gn := by
  refine hR.ru hj hw.1 ⟨rfl, rfl⟩ (fun q hq => ?_) (fun q i hi hq => ?_) ⟨rfl, rfl⟩ (fun i q hi hq => ⟨?_, ?_⟩) hw.l4 ?_
  · rw [up_ne (by omega), up_ne (by omega), up_ne (by omega)]
  · rcases hq with rfl | rfl | rfl | rfl
    · rfl
    · rfl
    · rfl
    · exact pk_un hi
  · exact pk_un (by omega)
  · exact pk_un (by omega)
  · obtain ⟨a1, a2, a3, a4, a5, a6⟩ := hR.2.1 j hj
    refine ⟨a1, a2, a3, ?_, a5, fun q hq => ?_⟩
    · show upd (F 10) j _ j = nI (uAc ((kRs σ).getD j u0) ++ [(k, v)]).length
      rw [pk_us, len1, nI_1]
    · have hq' : q < (uAc ((kRs σ).getD j u0)).length + 1 := by have h9 : q < (uAc ((kRs σ).getD j u0) ++ [(k, v)]).length := hq; simpa using h9
      show upd (F 8) (4 * j + (uAc ((kRs σ).getD j u0)).length) k (4 * j + q) = ((uAc ((kRs σ).getD j u0) ++ [(k, v)]).getD q (0, 0)).1 ∧ upd (F 9) (4 * j + (uAc ((kRs σ).getD j u0)).length) v (4 * j + q) = ((uAc ((kRs σ).getD j u0) ++ [(k, v)]).getD q (0, 0)).2
      by_cases e : q = (uAc ((kRs σ).getD j u0)).length
      · rw [e, pk_us, pk_us, getD_r]; exact ⟨rfl, rfl⟩
      · rw [pk_un (by omega), pk_un (by omega), getD_l (by omega)]; exact a6 q (by omega)
/-- a rule more -/
theorem mRep.ar {F F' : Nat → Nat → Int32} {G : Nat → Int64} {σ : Bk} {gn : Nat} {r : Ru} (hR : mRep F G σ gn) (hl24 : (kRs σ).length < 24) (hw : ∀ j, j < (kRs σ).length → (uMs ((kRs σ).getD j u0)).length ≤ 3) (hold : ∀ i, i < (kRs σ).length → F' 3 i = F 3 i ∧ F' 4 i = F 4 i ∧ F' 5 i = F 5 i) (h6 : ∀ x, x < 3 * (kRs σ).length → F' 6 x = F 6 x ∧ F' 7 x = F 7 x) (h8 : F' 8 = F 8 ∧ F' 9 = F 9 ∧ F' 10 = F 10) (hhi : F' 12 = F 12 ∧ F' 13 = F 13 ∧ F' 14 = F 14 ∧ F' 15 = F 15 ∧ F' 16 = F 16 ∧ F' 17 = F 17 ∧ F' 18 = F 18 ∧ F' 20 = F 20 ∧ F' 21 = F 21) (hr : mRu F' (kRs σ).length r) : mRep F' G (kRs σ ++ [r], kIs σ, kSt σ, [], kMk σ) gn := by
  obtain ⟨r0, r1, r2, r3, r4, r5, r6⟩ := hR
  obtain ⟨q12, q13, q14, q15, q16, q17, q18, q20, q21⟩ := hhi
  refine ⟨fun j hj => absurd hj (Nat.not_lt_zero j), fun j hj => ?_, fun j h1 h2 => ?_, fun j hj => ?_, fun j hj => ?_, fun j h1 h2 => ?_, r6⟩
  · have hj' : j < (kRs σ).length + 1 := by have h9 : j < (kRs σ ++ [r]).length := hj; simpa using h9
    show mRu F' j ((kRs σ ++ [r]).getD j u0)
    by_cases e : j = (kRs σ).length
    · rw [e, getD_r]; exact hr
    · rw [getD_l (by omega)]
      obtain ⟨a1, a2, a3, a4, a5, a6⟩ := r1 j (by omega)
      obtain ⟨o1, o2, o3⟩ := hold j (by omega)
      refine ⟨by rw [o1]; exact a1, by rw [o2]; exact a2, by rw [o3]; exact a3, by rw [h8.2.2]; exact a4, fun q hq => ?_, by rw [h8.1, h8.2.1]; exact a6⟩
      have := hw j (by omega)
      have h9 := h6 (3 * j + q) (by omega)
      rw [h9.1, h9.2]; exact a5 q hq
  · rw [h8.2.2]
    exact r2 j (by have h9 : (kRs σ ++ [r]).length ≤ j := h1; simp at h9; omega) h2
  · rw [q12]; exact r3 j hj
  · have := r4 j hj
    unfold mIn at this ⊢
    rw [q13, q14, q15, q16, q17, q18, q20, q21]; exact this
  · rw [q21]; exact r5 j h1 h2
/-! what an action may be -/
theorem allw_lo {mt : Nat} {k v : Int32} (h : k < 0) : allw mt k v = false := by
  have n0 : ¬ k = 0 := fun e => by rw [e] at h; exact absurd h (by decide)
  have n1 : ¬ k = 1 := fun e => by rw [e] at h; exact absurd h (by decide)
  have n2 : ¬ k = 2 := fun e => by rw [e] at h; exact absurd h (by decide)
  have n3 : ¬ k = 3 := fun e => by rw [e] at h; exact absurd h (by decide)
  have n4 : ¬ k = 4 := fun e => by rw [e] at h; exact absurd h (by decide)
  simp [allw, n0, n1, n2, n3, n4]
theorem allw_hi {mt : Nat} {k v : Int32} (h : ¬ k ≤ 4) : allw mt k v = false := by
  have n0 : ¬ k = 0 := fun e => by rw [e] at h; exact absurd (by decide) h
  have n1 : ¬ k = 1 := fun e => by rw [e] at h; exact absurd (by decide) h
  have n2 : ¬ k = 2 := fun e => by rw [e] at h; exact absurd (by decide) h
  have n3 : ¬ k = 3 := fun e => by rw [e] at h; exact absurd (by decide) h
  have n4 : ¬ k = 4 := fun e => by rw [e] at h; exact absurd (by decide) h
  simp [allw, n0, n1, n2, n3, n4]
theorem allw_0 (mt : Nat) (v : Int32) : allw mt (nI 0) v = true := rfl
theorem allw_2 (mt : Nat) (v : Int32) : allw mt (nI 2) v = true := rfl
theorem allw_3 (mt : Nat) (v : Int32) : allw mt (nI 3) v = true := rfl
theorem allw_1 (mt : Nat) (v : Int32) : allw mt (nI 1) v = inR v 0 (nI (mt % 4) - 1) := rfl
theorem allw_4 (mt : Nat) (v : Int32) : allw mt (nI 4) v = (inR v 0 31 && decide (v.toNatClampNeg % 4 ≤ mt % 4)) := rfl
theorem abN {wh : Int32} (h : wh < 0 ∨ ¬ wh ≤ 2) : ¬ wh = 0 ∧ ¬ wh = 1 ∧ ¬ wh = 2 := by
  refine ⟨fun e => ?_, fun e => ?_, fun e => ?_⟩ <;> (rw [e] at h; exact absurd h (by decide))
theorem ab2 {wh : Int32} (h : ¬ wh < 0) (h2 : wh ≤ 2) (h0 : ¬ wh = 0) (h1 : ¬ wh = 1) : wh = 2 := by
  obtain ⟨j, hj, rfl⟩ := nI_of2 (M := 2) (n := 2) (by decide) h h2
  rcases (by omega : j = 0 ∨ j = 1 ∨ j = 2) with rfl | rfl | rfl
  · exact absurd rfl h0
  · exact absurd rfl h1
  · rfl
theorem nIm1_le {a b : Nat} (ha : a < 2 ^ 30) (hb : b < 2 ^ 30) : nI a - 1 ≤ nI b - 1 ↔ a ≤ b := by
  rw [Int32.le_iff_toInt_le, show (nI a - 1 : Int32) = nI a - nI 1 from rfl, show (nI b - 1 : Int32) = nI b - nI 1 from rfl, pk_sub_toInt ha (by decide), pk_sub_toInt hb (by decide)]
  omega
end
