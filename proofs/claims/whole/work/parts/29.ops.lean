/-! What the writing calls do. -/
def sMatcher (σ : Bk) (k v : Int32) : Bk × Int32 := if inR k 0 5 then (if 3 ≤ (kBu σ).length then (σ, -2) else ((kRs σ, kIs σ, kSt σ, kBu σ ++ [(k, v)], kMk σ), nI (kBu σ ++ [(k, v)]).length)) else (σ, -1)
def sDrop (σ : Bk) : Bk := (kRs σ, kIs σ, kSt σ, [], kMk σ)
def sRewind (σ : Bk) : Bk × Int32 := ((kRs σ, kIs σ, kSt σ, kBu σ, 0), nI (kMk σ) - 1)
def sStrict (σ : Bk) (m : Int32) (on : Bool) : Bk × Int32 := if inR m 0 3 then ((kRs σ, kIs σ, va_up (kSt σ) m.toNatClampNeg on, kBu σ, kMk σ), bI (kSt σ m.toNatClampNeg)) else (σ, -1)
def uAdd (r : Ru) (k v : Int32) : Ru := (uMk r, uMt r, uMs r, uAc r ++ [(k, v)], uUs r, uLv r)
def sThen (σ : Bk) (x k v : Int32) : Bk × Int32 := if inR x 0 (nI (kRs σ).length - 1) then (if uLv ((kRs σ).getD x.toNatClampNeg u0) && allw (uMt ((kRs σ).getD x.toNatClampNeg u0)) k v then (if 4 ≤ (uAc ((kRs σ).getD x.toNatClampNeg u0)).length then (σ, -2) else (((kRs σ).set x.toNatClampNeg (uAdd ((kRs σ).getD x.toNatClampNeg u0) k v), kIs σ, kSt σ, kBu σ, kMk σ), nI (uAc ((kRs σ).getD x.toNatClampNeg u0) ++ [(k, v)]).length)) else (σ, -1)) else (σ, -1)
def sRule (σ : Bk) (m t : Int32) : Bk × Int32 := if inR m 0 3 && inR t 0 7 then (if (kBu σ).length = t.toNatClampNeg % 4 then (if 24 ≤ (kRs σ).length then (σ, -2) else ((kRs σ ++ [(m.toNatClampNeg, t.toNatClampNeg, kBu σ, [], 0, true)], kIs σ, kSt σ, [], kMk σ), nI (kRs σ).length)) else (σ, -1)) else (σ, -1)
def iVer (t : It) : It := (iMk t, iMt t, iX t, iDp t, iFr t, iRu t, iAn t, true, iLv t)
def iEnd (t : It) : It := (iMk t, iMt t, iX t, iDp t, iFr t, iRu t, iAn t, iVe t, false)
def uEnd (r : Ru) : Ru := (uMk r, uMt r, uMs r, uAc r, uUs r, false)
def sInOrder (σ : Bk) (m t : Int32) : Bk × Int32 := if inR m 0 3 && inR t 0 7 then (if (kBu σ).length = t.toNatClampNeg % 4 then (if fst' (qAsk σ m.toNatClampNeg t.toNatClampNeg) ((kIs σ).length - kMk σ) (kMk σ) = -10 then ((kRs σ, kIs σ, kSt σ, [], kMk σ), -10) else ((kRs σ, (kIs σ).set (fst' (qAsk σ m.toNatClampNeg t.toNatClampNeg) ((kIs σ).length - kMk σ) (kMk σ)).toNatClampNeg (iVer ((kIs σ).getD (fst' (qAsk σ m.toNatClampNeg t.toNatClampNeg) ((kIs σ).length - kMk σ) (kMk σ)).toNatClampNeg i0)), kSt σ, [], (fst' (qAsk σ m.toNatClampNeg t.toNatClampNeg) ((kIs σ).length - kMk σ) (kMk σ)).toNatClampNeg + 1), fst' (qAsk σ m.toNatClampNeg t.toNatClampNeg) ((kIs σ).length - kMk σ) (kMk σ))) else (σ, -1)) else (σ, -1)
def gVer (bu : List Pr) (mk mt : Nat) (t : It) : It := if iAsk bu mk mt t then iVer t else t
def sVerify (σ : Bk) (m t md n : Int32) : Bk × Int32 := if inR m 0 3 && inR t 0 7 && inR md 0 2 then (if (kBu σ).length = t.toNatClampNeg % 4 then (if wantd (nI (cnt (qAsk σ m.toNatClampNeg t.toNatClampNeg) (kIs σ).length)) md n then ((kRs σ, (kIs σ).map (gVer (kBu σ) m.toNatClampNeg t.toNatClampNeg), kSt σ, [], kMk σ), nI (cnt (qAsk σ m.toNatClampNeg t.toNatClampNeg) (kIs σ).length)) else ((kRs σ, kIs σ, kSt σ, [], kMk σ), -10 - nI (cnt (qAsk σ m.toNatClampNeg t.toNatClampNeg) (kIs σ).length))) else (σ, -1)) else (σ, -1)
def gEndI (mk : Nat) (t : It) : It := if iLv t && decide (iMk t = mk) then iEnd t else t
def gEndR (mk : Nat) (r : Ru) : Ru := if decide (uMk r = mk) then uEnd r else r
def qEnd (is : List It) (mk : Nat) (i : Nat) : Bool := iLv (is.getD i i0) && decide (iMk (is.getD i i0) = mk)
def sReset (σ : Bk) (m : Int32) : Bk × Int32 := if inR m 0 3 then (((kRs σ).map (gEndR m.toNatClampNeg), (kIs σ).map (gEndI m.toNatClampNeg), kSt σ, kBu σ, kMk σ), nI (cnt (qEnd (kIs σ) m.toNatClampNeg) (kIs σ).length)) else (σ, -1)
/-- the first i of a list are changed by g -/
def upT {α : Type} (g : α → α) (i : Nat) (l : List α) : List α := (l.take i).map g ++ l.drop i
theorem upT_0 {α : Type} (g : α → α) (l : List α) : upT g 0 l = l := rfl
theorem upT_all {α : Type} (g : α → α) {i : Nat} (l : List α) (h : l.length ≤ i) : upT g i l = l.map g := by
  unfold upT
  rw [List.take_of_length_le h, List.drop_eq_nil_of_le h, List.append_nil]
theorem upT_len {α : Type} (g : α → α) (i : Nat) (l : List α) : (upT g i l).length = l.length := by
  unfold upT
  simp
  omega
theorem upT_get {α : Type} (g : α → α) {i j : Nat} (l : List α) (d : α) (h : i ≤ j) : (upT g i l).getD j d = l.getD j d := by
  unfold upT
  by_cases hj : j < l.length
  · rw [List.getD_eq_getElem?_getD, List.getD_eq_getElem?_getD, List.getElem?_append_right (by simp; omega), List.getElem?_drop]
    congr 2
    simp
    omega
  · rw [List.getD_eq_getElem?_getD, List.getD_eq_getElem?_getD, List.getElem?_eq_none (by simp; omega), List.getElem?_eq_none (by omega)]
theorem upT_lt {α : Type} (g : α → α) {i j : Nat} (l : List α) (d : α) (h : j < i) (hj : j < l.length) : (upT g i l).getD j d = g (l.getD j d) := by
  unfold upT
  rw [List.getD_eq_getElem?_getD, List.getD_eq_getElem?_getD, List.getElem?_append_left (by simp; omega)]
  simp [hj, h]
theorem ext_getD {α : Type} {l l' : List α} (d : α) (h : l.length = l'.length) (hg : ∀ j, j < l.length → l.getD j d = l'.getD j d) : l = l' := by
  refine List.ext_getElem h (fun j h1 h2 => ?_)
  have := hg j h1
  simpa [List.getD_eq_getElem?_getD, h1, h2] using this
theorem upT_s {α : Type} (g : α → α) {i : Nat} (l : List α) (d : α) (hi : i < l.length) : upT g (i + 1) l = (upT g i l).set i (g (l.getD i d)) := by
  refine ext_getD d (by rw [List.length_set, upT_len, upT_len]) (fun j hj => ?_)
  rw [upT_len] at hj
  rw [getD_set (by rw [upT_len]; exact hi)]
  by_cases e : j = i
  · subst e; rw [if_pos rfl, upT_lt g l d (by omega) hj]
  · rw [if_neg e]
    by_cases hl : j < i
    · rw [upT_lt g l d (by omega) hj, upT_lt g l d hl hj]
    · rw [upT_get g l d (by omega), upT_get g l d (by omega)]
theorem upT_k {α : Type} (g : α → α) {i : Nat} (l : List α) (d : α) (hi : i < l.length) (h : g (l.getD i d) = l.getD i d) : upT g (i + 1) l = upT g i l := by
  refine ext_getD d (by rw [upT_len, upT_len]) (fun j hj => ?_)
  rw [upT_len] at hj
  by_cases hl : j < i
  · rw [upT_lt g l d (by omega) hj, upT_lt g l d hl hj]
  · by_cases e : j = i
    · subst e; rw [upT_lt g l d (by omega) hj, upT_get g l d (by omega)]; exact h
    · rw [upT_get g l d (by omega), upT_get g l d (by omega)]
