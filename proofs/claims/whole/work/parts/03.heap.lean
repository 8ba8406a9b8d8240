/-! ===== the tables' good words; a heap as seven plain functions; its picture as a pool ===== -/
def TB : List Cond := lw_tbl.filter goodWord
theorem TB_in {w : Cond} (h : w ∈ TB) : w ∈ lw_tbl := (List.mem_filter.mp h).1
theorem TB_good {w : Cond} (h : w ∈ TB) : goodWord w = true := (List.mem_filter.mp h).2
/-- addresses, kind by address, int fields (field, address), reference fields, lengths, rows of ints and booleans, rows of references -/
abbrev HS : Type := List Nat × (Nat → Nat) × (Nat → Nat → Int32) × (Nat → Nat → Option Nat) × (Nat → Nat) × (Nat → Nat → Int32) × (Nat → Nat → Option Nat)
def sL (S : HS) : List Nat := S.1
def sK (S : HS) : Nat → Nat := S.2.1
def sI (S : HS) : Nat → Nat → Int32 := S.2.2.1
def sR (S : HS) : Nat → Nat → Option Nat := S.2.2.2.1
def sN (S : HS) : Nat → Nat := S.2.2.2.2.1
def sA (S : HS) : Nat → Nat → Int32 := S.2.2.2.2.2.1
def sQ (S : HS) : Nat → Nat → Option Nat := S.2.2.2.2.2.2
def setI (S : HS) (f a : Nat) (v : Int32) : HS := (sL S, sK S, va_up (sI S) f (va_up (sI S f) a v), sR S, sN S, sA S, sQ S)
def setR (S : HS) (f a : Nat) (v : Option Nat) : HS := (sL S, sK S, sI S, va_up (sR S) f (va_up (sR S f) a v), sN S, sA S, sQ S)
def setA (S : HS) (a : Nat) (r : Nat → Int32) : HS := (sL S, sK S, sI S, sR S, sN S, va_up (sA S) a r, sQ S)
def setQ (S : HS) (a : Nat) (r : Nat → Option Nat) : HS := (sL S, sK S, sI S, sR S, sN S, sA S, va_up (sQ S) a r)
def newO (S : HS) (a ci : Nat) : HS := (sL S ++ [a], va_up (sK S) a ci, (fun f => va_up (sI S f) a 0), (fun f => va_up (sR S f) a none), sN S, sA S, sQ S)
def newA (S : HS) (a ki n : Nat) : HS := (sL S ++ [a], va_up (sK S) a ki, sI S, sR S, va_up (sN S) a n, va_up (sA S) a (fun _ => 0), va_up (sQ S) a (fun _ => none))
theorem sL_setI (S : HS) (f a : Nat) (v : Int32) : sL (setI S f a v) = sL S := rfl
theorem sK_setI (S : HS) (f a : Nat) (v : Int32) : sK (setI S f a v) = sK S := rfl
theorem sI_setI (S : HS) (f a : Nat) (v : Int32) : sI (setI S f a v) = va_up (sI S) f (va_up (sI S f) a v) := rfl
theorem sR_setI (S : HS) (f a : Nat) (v : Int32) : sR (setI S f a v) = sR S := rfl
theorem sN_setI (S : HS) (f a : Nat) (v : Int32) : sN (setI S f a v) = sN S := rfl
theorem sA_setI (S : HS) (f a : Nat) (v : Int32) : sA (setI S f a v) = sA S := rfl
theorem sQ_setI (S : HS) (f a : Nat) (v : Int32) : sQ (setI S f a v) = sQ S := rfl
theorem sL_setR (S : HS) (f a : Nat) (v : Option Nat) : sL (setR S f a v) = sL S := rfl
theorem sK_setR (S : HS) (f a : Nat) (v : Option Nat) : sK (setR S f a v) = sK S := rfl
theorem sI_setR (S : HS) (f a : Nat) (v : Option Nat) : sI (setR S f a v) = sI S := rfl
theorem sR_setR (S : HS) (f a : Nat) (v : Option Nat) : sR (setR S f a v) = va_up (sR S) f (va_up (sR S f) a v) := rfl
theorem sN_setR (S : HS) (f a : Nat) (v : Option Nat) : sN (setR S f a v) = sN S := rfl
theorem sA_setR (S : HS) (f a : Nat) (v : Option Nat) : sA (setR S f a v) = sA S := rfl
theorem sQ_setR (S : HS) (f a : Nat) (v : Option Nat) : sQ (setR S f a v) = sQ S := rfl
theorem sL_setA (S : HS) (a : Nat) (r : Nat → Int32) : sL (setA S a r) = sL S := rfl
theorem sK_setA (S : HS) (a : Nat) (r : Nat → Int32) : sK (setA S a r) = sK S := rfl
theorem sI_setA (S : HS) (a : Nat) (r : Nat → Int32) : sI (setA S a r) = sI S := rfl
theorem sR_setA (S : HS) (a : Nat) (r : Nat → Int32) : sR (setA S a r) = sR S := rfl
theorem sN_setA (S : HS) (a : Nat) (r : Nat → Int32) : sN (setA S a r) = sN S := rfl
theorem sA_setA (S : HS) (a : Nat) (r : Nat → Int32) : sA (setA S a r) = va_up (sA S) a r := rfl
theorem sQ_setA (S : HS) (a : Nat) (r : Nat → Int32) : sQ (setA S a r) = sQ S := rfl
theorem sL_setQ (S : HS) (a : Nat) (r : Nat → Option Nat) : sL (setQ S a r) = sL S := rfl
theorem sK_setQ (S : HS) (a : Nat) (r : Nat → Option Nat) : sK (setQ S a r) = sK S := rfl
theorem sI_setQ (S : HS) (a : Nat) (r : Nat → Option Nat) : sI (setQ S a r) = sI S := rfl
theorem sR_setQ (S : HS) (a : Nat) (r : Nat → Option Nat) : sR (setQ S a r) = sR S := rfl
theorem sN_setQ (S : HS) (a : Nat) (r : Nat → Option Nat) : sN (setQ S a r) = sN S := rfl
theorem sA_setQ (S : HS) (a : Nat) (r : Nat → Option Nat) : sA (setQ S a r) = sA S := rfl
theorem sQ_setQ (S : HS) (a : Nat) (r : Nat → Option Nat) : sQ (setQ S a r) = va_up (sQ S) a r := rfl
theorem sL_newO (S : HS) (a ci : Nat) : sL (newO S a ci) = sL S ++ [a] := rfl
theorem sK_newO (S : HS) (a ci : Nat) : sK (newO S a ci) = va_up (sK S) a ci := rfl
theorem sI_newO (S : HS) (a ci f : Nat) : sI (newO S a ci) f = va_up (sI S f) a 0 := rfl
theorem sR_newO (S : HS) (a ci f : Nat) : sR (newO S a ci) f = va_up (sR S f) a none := rfl
theorem sN_newO (S : HS) (a ci : Nat) : sN (newO S a ci) = sN S := rfl
theorem sA_newO (S : HS) (a ci : Nat) : sA (newO S a ci) = sA S := rfl
theorem sQ_newO (S : HS) (a ci : Nat) : sQ (newO S a ci) = sQ S := rfl
theorem sL_newA (S : HS) (a ki n : Nat) : sL (newA S a ki n) = sL S ++ [a] := rfl
theorem sK_newA (S : HS) (a ki n : Nat) : sK (newA S a ki n) = va_up (sK S) a ki := rfl
theorem sI_newA (S : HS) (a ki n : Nat) : sI (newA S a ki n) = sI S := rfl
theorem sR_newA (S : HS) (a ki n : Nat) : sR (newA S a ki n) = sR S := rfl
theorem sN_newA (S : HS) (a ki n : Nat) : sN (newA S a ki n) = va_up (sN S) a n := rfl
theorem sA_newA (S : HS) (a ki n : Nat) : sA (newA S a ki n) = va_up (sA S) a (fun _ => 0) := rfl
theorem sQ_newA (S : HS) (a ki n : Nat) : sQ (newA S a ki n) = va_up (sQ S) a (fun _ => none) := rfl
/-- which fields of which kind are references -/
def fT : List (List Bool) := [[true, true, false, false, false, false, false, false], [false, false, false], [false, false, false, false, false, false, false, false, false, false, false], [true, true, true, false], [true, true, true, false, false], [true, false], [false, false, false, false, false], [true, false, false, false, false], [true, true, true, true, true, true, true, true, true, false, false, false, false, false, false, false, false, false], [true, true, true, true, true, true, true, true, true, true, true, true, true, true, true, true, true, true, true, true, true, true, true, true, false, false, false, false, false, false, false, false, false, false, false, true, true, true, true, true, true, true, true, true, true, true, true, false, false, false, false, false, true]]
def nF (ci : Nat) : Nat := (fT.getD ci []).length
def fR (ci k : Nat) : Bool := (fT.getD ci []).getD k false
def fid (ci k : Nat) : Nat := ci * 64 + k
def fv (S : HS) (ci a k : Nat) : Value := if fR ci k = true then va_rf (sR S (fid ci k) a) else .int (sI S (fid ci k) a)
def fvs (S : HS) (ci a : Nat) : List Value := (List.range (nF ci)).map (fv S ci a)
def pf (cy : Nat → ClassId) (S : HS) (a : Nat) : va_E := if sK S a < 10 then .inr (sK S a, fvs S (sK S a) a) else if sK S a < 12 then .inl (cy (sK S a), sN S a, .inl (sA S a)) else .inl (cy (sK S a), sN S a, .inr (.inr (.inr (.inr (sQ S a)))))
def pool (cy : Nat → ClassId) (S : HS) : va_W := va_pl (sL S) (pf cy S)
theorem fvs_get {S : HS} {ci a k : Nat} (hk : k < nF ci) : (fvs S ci a)[k]? = some (fv S ci a k) := by
  simp [fvs, hk]
theorem fvs_len (S : HS) (ci a : Nat) : (fvs S ci a).length = nF ci := by simp [fvs]
theorem pool_get {cy : Nat → ClassId} {S : HS} {a : Nat} (h : a ∈ sL S) : ∃ k : Nat, (pool cy S)[k]? = some (a, pf cy S a) := va_pl_get (X := []) h
theorem pool_set {A : Nat → Prop} {cy : Nat → ClassId} {S S' : HS} {a k : Nat} {e : va_E} (hD : va_D A (pool cy S)) (h : a ∈ sL S) (hk : (pool cy S)[k]? = some (a, pf cy S a)) (hL : sL S' = sL S) (hp : ∀ b, va_up (pf cy S) a e b = pf cy S' b) : (pool cy S).set k (a, e) = pool cy S' := by
  have h1 : (pool cy S).set k (a, e) = va_pl (sL S) (va_up (pf cy S) a e) := va_pl_set (X := []) (e := e) hD h hk
  rw [h1, va_pl_congr hp, pool, hL]
theorem pool_push {cy : Nat → ClassId} {S S' : HS} {a : Nat} {e : va_E} (h : a ∉ sL S) (hL : sL S' = sL S ++ [a]) (hp : ∀ b, va_up (pf cy S) a e b = pf cy S' b) : pool cy S ++ [(a, e)] = pool cy S' := by
  have h1 : pool cy S ++ [(a, e)] = va_pl (sL S ++ [a]) (va_up (pf cy S) a e) := va_pl_push h
  rw [h1, va_pl_congr hp, pool, hL]
theorem fid_ne {ci j k : Nat} (h : j ≠ k) : fid ci j ≠ fid ci k := by unfold fid; omega
theorem fvs_other {S S' : HS} {ci b : Nat} (hI : ∀ f, sI S' f b = sI S f b) (hR : ∀ f, sR S' f b = sR S f b) : fvs S' ci b = fvs S ci b := by
  unfold fvs
  apply List.map_congr_left
  intro j _
  simp only [fv, hI, hR]
theorem pf_setI {cy : Nat → ClassId} {S : HS} {a ci k : Nat} {v : Int32} (hK : sK S a = ci) (hc : ci < 10) (hk : k < nF ci) (hr : fR ci k = false) (b : Nat) : va_up (pf cy S) a (.inr (ci, (fvs S ci a).set k (.int v))) b = pf cy (setI S (fid ci k) a v) b := by
  by_cases hb : b = a
  · subst hb
    have e : (fvs S ci b).set k (.int v) = fvs (setI S (fid ci k) b v) ci b := by
      apply List.ext_getElem?
      intro j
      by_cases hj : j = k
      · subst hj
        rw [List.getElem?_set_self (by rw [fvs_len]; exact hk), fvs_get hk]
        simp [fv, hr, sI_setI, va_up]
      · rw [List.getElem?_set_ne (Ne.symm hj)]
        by_cases hjl : j < nF ci
        · rw [fvs_get hjl, fvs_get hjl]
          simp [fv, sI_setI, sR_setI, va_up, fid_ne hj]
        · rw [List.getElem?_eq_none (by rw [fvs_len]; omega), List.getElem?_eq_none (by rw [fvs_len]; omega)]
    simp [va_up, pf, sK_setI, hK, hc, e]
  · have e : ∀ c, fvs (setI S (fid ci k) a v) c b = fvs S c b := fun c => fvs_other (fun f => by by_cases hf : f = fid ci k <;> simp [sI_setI, va_up, hb, hf]) (fun f => rfl)
    simp only [va_up, hb, if_false, pf, sK_setI, sN_setI, sA_setI, sQ_setI, e] <;> rfl
theorem pf_setR {cy : Nat → ClassId} {S : HS} {a ci k : Nat} {v : Option Nat} (hK : sK S a = ci) (hc : ci < 10) (hk : k < nF ci) (hr : fR ci k = true) (b : Nat) : va_up (pf cy S) a (.inr (ci, (fvs S ci a).set k (va_rf v))) b = pf cy (setR S (fid ci k) a v) b := by
  by_cases hb : b = a
  · subst hb
    have e : (fvs S ci b).set k (va_rf v) = fvs (setR S (fid ci k) b v) ci b := by
      apply List.ext_getElem?
      intro j
      by_cases hj : j = k
      · subst hj
        rw [List.getElem?_set_self (by rw [fvs_len]; exact hk), fvs_get hk]
        simp [fv, hr, sR_setR, va_up]
      · rw [List.getElem?_set_ne (Ne.symm hj)]
        by_cases hjl : j < nF ci
        · rw [fvs_get hjl, fvs_get hjl]
          simp [fv, sI_setR, sR_setR, va_up, fid_ne hj]
        · rw [List.getElem?_eq_none (by rw [fvs_len]; omega), List.getElem?_eq_none (by rw [fvs_len]; omega)]
    simp [va_up, pf, sK_setR, hK, hc, e]
  · have e : ∀ c, fvs (setR S (fid ci k) a v) c b = fvs S c b := fun c => fvs_other (fun f => rfl) (fun f => by by_cases hf : f = fid ci k <;> simp [sR_setR, va_up, hb, hf])
    simp only [va_up, hb, if_false, pf, sK_setR, sN_setR, sA_setR, sQ_setR, e] <;> rfl
theorem pf_setA {cy : Nat → ClassId} {S : HS} {a : Nat} {r : Nat → Int32} (h1 : ¬ sK S a < 10) (h2 : sK S a < 12) (b : Nat) : va_up (pf cy S) a (.inl (cy (sK S a), sN S a, .inl r)) b = pf cy (setA S a r) b := by
  by_cases hb : b = a
  · subst hb
    simp [va_up, pf, sK_setA, sN_setA, sA_setA, h1, h2]
  · have e : ∀ c, fvs (setA S a r) c b = fvs S c b := fun c => fvs_other (fun f => rfl) (fun f => rfl)
    simp only [va_up, hb, if_false, pf, sK_setA, sN_setA, sA_setA, sQ_setA, e] <;> rfl
theorem pf_setQ {cy : Nat → ClassId} {S : HS} {a : Nat} {r : Nat → Option Nat} (h1 : ¬ sK S a < 12) (b : Nat) : va_up (pf cy S) a (.inl (cy (sK S a), sN S a, .inr (.inr (.inr (.inr r))))) b = pf cy (setQ S a r) b := by
  by_cases hb : b = a
  · subst hb
    have h2 : ¬ sK S b < 10 := by omega
    simp [va_up, pf, sK_setQ, sN_setQ, sQ_setQ, h1, h2]
  · have e : ∀ c, fvs (setQ S a r) c b = fvs S c b := fun c => fvs_other (fun f => rfl) (fun f => rfl)
    simp only [va_up, hb, if_false, pf, sK_setQ, sN_setQ, sA_setQ, sQ_setQ, e] <;> rfl
def dfs (ci : Nat) : List Value := (List.range (nF ci)).map (fun k => if fR ci k = true then Value.null else .int 0)
theorem pf_newO {cy : Nat → ClassId} {S : HS} {a ci : Nat} (hc : ci < 10) (b : Nat) : va_up (pf cy S) a (.inr (ci, dfs ci)) b = pf cy (newO S a ci) b := by
  by_cases hb : b = a
  · subst hb
    have e : dfs ci = fvs (newO S b ci) ci b := by
      unfold dfs fvs
      apply List.map_congr_left
      intro j _
      simp [fv, sI_newO, sR_newO, va_up, va_rf]
    simp [va_up, pf, sK_newO, hc, e]
  · have e : ∀ c, fvs (newO S a ci) c b = fvs S c b := fun c => fvs_other (fun f => by simp [sI_newO, va_up, hb]) (fun f => by simp [sR_newO, va_up, hb])
    simp only [va_up, hb, if_false, pf, sK_newO, sN_newO, sA_newO, sQ_newO, e] <;> rfl
theorem pf_newA {cy : Nat → ClassId} {S : HS} {a ki n : Nat} (h1 : ¬ ki < 10) (h2 : ki < 12) (b : Nat) : va_up (pf cy S) a (.inl (cy ki, n, .inl (fun _ => 0))) b = pf cy (newA S a ki n) b := by
  by_cases hb : b = a
  · subst hb
    simp [va_up, pf, sK_newA, sN_newA, sA_newA, h1, h2]
  · have e : ∀ c, fvs (newA S a ki n) c b = fvs S c b := fun c => fvs_other (fun f => rfl) (fun f => rfl)
    simp only [va_up, hb, if_false, pf, sK_newA, sN_newA, sA_newA, sQ_newA, e] <;> rfl
theorem pf_newQ {cy : Nat → ClassId} {S : HS} {a ki n : Nat} (h1 : ¬ ki < 12) (b : Nat) : va_up (pf cy S) a (.inl (cy ki, n, .inr (.inr (.inr (.inr (fun _ => none)))))) b = pf cy (newA S a ki n) b := by
  by_cases hb : b = a
  · subst hb
    have h2 : ¬ ki < 10 := by omega
    simp [va_up, pf, sK_newA, sN_newA, sQ_newA, h1, h2]
  · have e : ∀ c, fvs (newA S a ki n) c b = fvs S c b := fun c => fvs_other (fun f => rfl) (fun f => rfl)
    simp only [va_up, hb, if_false, pf, sK_newA, sN_newA, sA_newA, sQ_newA, e] <;> rfl
theorem pf_obj {cy : Nat → ClassId} {S : HS} {a ci : Nat} (hK : sK S a = ci) (hc : ci < 10) : pf cy S a = .inr (ci, fvs S ci a) := by simp [pf, hK, hc]
theorem pf_arr {cy : Nat → ClassId} {S : HS} {a : Nat} (h1 : ¬ sK S a < 10) (h2 : sK S a < 12) : pf cy S a = .inl (cy (sK S a), sN S a, .inl (sA S a)) := by simp [pf, h1, h2]
theorem pf_arq {cy : Nat → ClassId} {S : HS} {a : Nat} (h1 : ¬ sK S a < 12) : pf cy S a = .inl (cy (sK S a), sN S a, .inr (.inr (.inr (.inr (sQ S a))))) := by
  have h2 : ¬ sK S a < 10 := by omega
  simp [pf, h1, h2]
