/-! ===== the tables' good words; a heap over tags; its picture as a world ===== -/
def TB : List Cond := lw_tbl.filter goodWord
theorem TB_in {w : Cond} (h : w ∈ TB) : w ∈ lw_tbl := (List.mem_filter.mp h).1
theorem TB_good {w : Cond} (h : w ∈ TB) : goodWord w = true := (List.mem_filter.mp h).2
/-- live tags, int fields (field, tag), reference fields, rows of ints and booleans, rows of references -/
abbrev HS : Type := List Nat × (Nat → Nat → Int32) × (Nat → Nat → Option Nat) × (Nat → Nat → Int32) × (Nat → Nat → Option Nat)
def sL (S : HS) : List Nat := S.1
def sI (S : HS) : Nat → Nat → Int32 := S.2.1
def sR (S : HS) : Nat → Nat → Option Nat := S.2.2.1
def sA (S : HS) : Nat → Nat → Int32 := S.2.2.2.1
def sQ (S : HS) : Nat → Nat → Option Nat := S.2.2.2.2
def up2 {α : Type} (f : Nat → Nat → α) (i a : Nat) (v : α) : Nat → Nat → α := fun j b => if j = i ∧ b = a then v else f j b
def setI (S : HS) (f a : Nat) (v : Int32) : HS := (sL S, up2 (sI S) f a v, sR S, sA S, sQ S)
def setR (S : HS) (f a : Nat) (v : Option Nat) : HS := (sL S, sI S, up2 (sR S) f a v, sA S, sQ S)
def setA (S : HS) (a : Nat) (r : Nat → Int32) : HS := (sL S, sI S, sR S, va_up (sA S) a r, sQ S)
def setQ (S : HS) (a : Nat) (r : Nat → Option Nat) : HS := (sL S, sI S, sR S, sA S, va_up (sQ S) a r)
def newO (S : HS) (a : Nat) : HS := (sL S ++ [a], (fun f => va_up (sI S f) a 0), (fun f => va_up (sR S f) a none), sA S, sQ S)
def newA (S : HS) (a : Nat) : HS := (sL S ++ [a], sI S, sR S, va_up (sA S) a (fun _ => 0), va_up (sQ S) a (fun _ => none))
theorem sL_setI (S : HS) (f a : Nat) (v : Int32) : sL (setI S f a v) = sL S := rfl
theorem sI_setI (S : HS) (f a : Nat) (v : Int32) : sI (setI S f a v) = up2 (sI S) f a v := rfl
theorem sR_setI (S : HS) (f a : Nat) (v : Int32) : sR (setI S f a v) = sR S := rfl
theorem sA_setI (S : HS) (f a : Nat) (v : Int32) : sA (setI S f a v) = sA S := rfl
theorem sQ_setI (S : HS) (f a : Nat) (v : Int32) : sQ (setI S f a v) = sQ S := rfl
theorem sL_setR (S : HS) (f a : Nat) (v : Option Nat) : sL (setR S f a v) = sL S := rfl
theorem sI_setR (S : HS) (f a : Nat) (v : Option Nat) : sI (setR S f a v) = sI S := rfl
theorem sR_setR (S : HS) (f a : Nat) (v : Option Nat) : sR (setR S f a v) = up2 (sR S) f a v := rfl
theorem sA_setR (S : HS) (f a : Nat) (v : Option Nat) : sA (setR S f a v) = sA S := rfl
theorem sQ_setR (S : HS) (f a : Nat) (v : Option Nat) : sQ (setR S f a v) = sQ S := rfl
theorem sL_setA (S : HS) (a : Nat) (r : Nat → Int32) : sL (setA S a r) = sL S := rfl
theorem sI_setA (S : HS) (a : Nat) (r : Nat → Int32) : sI (setA S a r) = sI S := rfl
theorem sR_setA (S : HS) (a : Nat) (r : Nat → Int32) : sR (setA S a r) = sR S := rfl
theorem sA_setA (S : HS) (a : Nat) (r : Nat → Int32) : sA (setA S a r) = va_up (sA S) a r := rfl
theorem sQ_setA (S : HS) (a : Nat) (r : Nat → Int32) : sQ (setA S a r) = sQ S := rfl
theorem sL_setQ (S : HS) (a : Nat) (r : Nat → Option Nat) : sL (setQ S a r) = sL S := rfl
theorem sI_setQ (S : HS) (a : Nat) (r : Nat → Option Nat) : sI (setQ S a r) = sI S := rfl
theorem sR_setQ (S : HS) (a : Nat) (r : Nat → Option Nat) : sR (setQ S a r) = sR S := rfl
theorem sA_setQ (S : HS) (a : Nat) (r : Nat → Option Nat) : sA (setQ S a r) = sA S := rfl
theorem sQ_setQ (S : HS) (a : Nat) (r : Nat → Option Nat) : sQ (setQ S a r) = va_up (sQ S) a r := rfl
theorem sL_newO (S : HS) (a : Nat) : sL (newO S a) = sL S ++ [a] := rfl
theorem sI_newO (S : HS) (a f : Nat) : sI (newO S a) f = va_up (sI S f) a 0 := rfl
theorem sR_newO (S : HS) (a f : Nat) : sR (newO S a) f = va_up (sR S f) a none := rfl
theorem sA_newO (S : HS) (a : Nat) : sA (newO S a) = sA S := rfl
theorem sQ_newO (S : HS) (a : Nat) : sQ (newO S a) = sQ S := rfl
theorem sL_newA (S : HS) (a : Nat) : sL (newA S a) = sL S ++ [a] := rfl
theorem sI_newA (S : HS) (a : Nat) : sI (newA S a) = sI S := rfl
theorem sR_newA (S : HS) (a : Nat) : sR (newA S a) = sR S := rfl
theorem sA_newA (S : HS) (a : Nat) : sA (newA S a) = va_up (sA S) a (fun _ => 0) := rfl
theorem sQ_newA (S : HS) (a : Nat) : sQ (newA S a) = va_up (sQ S) a (fun _ => none) := rfl
/-- which fields of which kind are references -/
def fT : List (List Bool) := [[true, true, false, false, false, false, false, false], [false, false, false], [false, false, false, false, false, false, false, false, false, false, false], [true, true, true, false], [true, true, true, false, false], [true, false], [false, false, false, false, false], [true, false, false, false, false], [true, true, true, true, true, true, true, true, true, false, false, false, false, false, false, false, false, false], [true, true, true, true, true, true, true, true, true, true, true, true, true, true, true, true, true, true, true, true, true, true, true, true, false, false, false, false, false, false, false, false, false, false, false, true, true, true, true, true, true, true, true, true, true, true, true, false, false, false, false, false, true]]
def nF (ci : Nat) : Nat := (fT.getD ci []).length
def fR (ci k : Nat) : Bool := (fT.getD ci []).getD k false
def fid (ci k : Nat) : Nat := ci * 64 + k
/-- THE TAGS. The system's: 0 the object; 1 sea, 2 crans, 3 isOpen, 4 change; 5 boats, 6 yards, 7 lots; 8 tape, 9 its bytes; 10 brands; 11 parting, 12 portions, 13 measures, 14 rests; 15 grammar, 16 verdict; boat i: 100 + 3 i, its parts, what its hands got; yard i: 200 + 2 i, freeAt; text of brand i: 300 + 2 i, its bytes; lot i: 1000 + i. The reference's: 2000 the object, 2001 + j the array of its field j -/
def tkM : List Nat := [10, 11, 10, 10, 10, 10, 10, 10, 10, 10, 10, 10, 10, 10, 10, 10, 10, 10, 10, 10, 10, 10, 10, 10, 0, 0, 0, 0, 0, 0, 0, 0, 0, 0, 0, 10, 10, 11, 10, 10, 10, 11, 10, 10, 10, 10, 11, 0, 0, 0, 0, 0, 11]
def tnM : List Nat := [36, 36, 12, 12, 12, 12, 12, 12, 96, 96, 4, 4, 4, 400, 400, 400, 400, 400, 400, 400, 400, 400, 400, 400, 0, 0, 0, 0, 0, 0, 0, 0, 0, 0, 0, 12, 12, 12, 12, 36, 4, 12, 6, 220, 1680, 420, 4, 0, 0, 0, 0, 0, 420]
def tk0 : List Nat := [8, 4, 10, 11, 10, 12, 15, 13, 5, 10, 14, 3, 10, 10, 10, 1, 6]
def tn0 : List Nat := [0, 0, 36, 36, 36, 12, 4, 400, 0, 200, 4, 0, 12, 12, 12, 0, 0]
def tk (t : Nat) : Nat := if t < 17 then tk0.getD t 0 else if t < 136 then (if t % 3 = 1 then 0 else 10) else if t < 208 then (if t % 2 = 0 then 7 else 10) else if t < 308 then (if t % 2 = 0 then 5 else 10) else if t < 2000 then 2 else if t = 2000 then 9 else tkM.getD (t - 2001) 10
def tn (t : Nat) : Nat := if t < 17 then tn0.getD t 0 else if t < 136 then 8 else if t < 208 then 6 else if t < 308 then 200 else tnM.getD (t - 2001) 0
def rn (ρ : Nat → Nat) (v : Value) : Value := match v with
  | .ref a => .ref (ρ a)
  | v => v
theorem rn_rf (ρ : Nat → Nat) (r : Option Nat) : rn ρ (va_rf r) = va_rf (r.map ρ) := by cases r <;> rfl
theorem rn_cat (ρ : Nat → Nat) (v : Value) : (rn ρ v).category = v.category := by cases v <;> rfl
def fv (ρ : Nat → Nat) (S : HS) (ci a k : Nat) : Value := if fR ci k = true then va_rf ((sR S (fid ci k) a).map ρ) else .int (sI S (fid ci k) a)
def fvs (ρ : Nat → Nat) (S : HS) (ci a : Nat) : List Value := (List.range (nF ci)).map (fv ρ S ci a)
def pf (cy : Nat → ClassId) (ρ : Nat → Nat) (S : HS) (a : Nat) : va_E := if tk a < 10 then .inr (tk a, fvs ρ S (tk a) a) else if tk a < 12 then .inl (cy (tk a), tn a, .inl (sA S a)) else .inl (cy (tk a), tn a, .inr (.inr (.inr (.inr (fun i => (sQ S a i).map ρ)))))
def pool (cy : Nat → ClassId) (ρ : Nat → Nat) (S : HS) : va_W := (sL S).map (fun t => (ρ t, pf cy ρ S t))
theorem fvs_get {ρ : Nat → Nat} {S : HS} {ci a k : Nat} (hk : k < nF ci) : (fvs ρ S ci a)[k]? = some (fv ρ S ci a k) := by
  simp [fvs, hk]
theorem fvs_len (ρ : Nat → Nat) (S : HS) (ci a : Nat) : (fvs ρ S ci a).length = nF ci := by simp [fvs]
theorem pool_at {cy : Nat → ClassId} {ρ : Nat → Nat} {S : HS} {a k : Nat} (h : (sL S)[k]? = some a) : (pool cy ρ S)[k]? = some (ρ a, pf cy ρ S a) := by
  simp [pool, h]
theorem pool_inj {A : Nat → Prop} {cy : Nat → ClassId} {ρ : Nat → Nat} {S : HS} (hD : va_D A (pool cy ρ S)) {a a' k k' : Nat} (h : (sL S)[k]? = some a) (h' : (sL S)[k']? = some a') (e : ρ a = ρ a') : k = k' :=
  hD.1 k k' _ _ (pool_at h) (pool_at h') e
theorem pool_set {A : Nat → Prop} {cy : Nat → ClassId} {ρ : Nat → Nat} {S S' : HS} {a k : Nat} {e : va_E} (hD : va_D A (pool cy ρ S)) (h : (sL S)[k]? = some a) (hL : sL S' = sL S) (hp : pf cy ρ S' a = e) (hp2 : ∀ t, t ≠ a → pf cy ρ S' t = pf cy ρ S t) : (pool cy ρ S).set k (ρ a, e) = pool cy ρ S' := by
  apply List.ext_getElem?
  intro j
  by_cases hj : j = k
  · subst hj
    have hl : j < (pool cy ρ S).length := by
      have := (List.getElem?_eq_some_iff.mp h).1
      simpa [pool] using this
    rw [List.getElem?_set_self hl, pool_at (by rw [hL]; exact h), hp]
  · rw [List.getElem?_set_ne (Ne.symm hj)]
    cases hb : (sL S)[j]? with
    | none =>
      have h1 : (sL S).length ≤ j := by simpa using hb
      rw [List.getElem?_eq_none (by simpa [pool] using h1), List.getElem?_eq_none (by simpa [pool, hL] using h1)]
    | some t =>
      have ht : t ≠ a := fun q => hj (pool_inj hD hb h (by rw [q]))
      rw [pool_at hb, pool_at (by rw [hL]; exact hb), hp2 t ht]
theorem pool_push {cy : Nat → ClassId} {ρ ρ' : Nat → Nat} {S S' : HS} {a q : Nat} {e : va_E} (hL : sL S' = sL S ++ [a]) (h0 : ρ' a = q) (hp : pf cy ρ' S' a = e) (hp2 : ∀ t ∈ sL S, ρ' t = ρ t ∧ pf cy ρ' S' t = pf cy ρ S t) : pool cy ρ S ++ [(q, e)] = pool cy ρ' S' := by
  unfold pool
  rw [hL, List.map_append, List.map_cons, List.map_nil, h0, hp]
  congr 1
  apply List.map_congr_left
  intro t ht
  rw [(hp2 t ht).1, (hp2 t ht).2]
theorem fid_ne {ci j k : Nat} (h : j ≠ k) : fid ci j ≠ fid ci k := by unfold fid; omega
theorem fvs_other {ρ ρ' : Nat → Nat} {S S' : HS} {ci b : Nat} (hI : ∀ f, sI S' f b = sI S f b) (hR : ∀ f, (sR S' f b).map ρ' = (sR S f b).map ρ) : fvs ρ' S' ci b = fvs ρ S ci b := by
  unfold fvs
  apply List.map_congr_left
  intro j _
  simp only [fv, hI, hR]
theorem pf_other {cy : Nat → ClassId} {ρ ρ' : Nat → Nat} {S S' : HS} {b : Nat} (hI : ∀ f, sI S' f b = sI S f b) (hR : ∀ f, (sR S' f b).map ρ' = (sR S f b).map ρ) (hA : sA S' b = sA S b) (hQ : ∀ i, (sQ S' b i).map ρ' = (sQ S b i).map ρ) : pf cy ρ' S' b = pf cy ρ S b := by
  unfold pf
  rw [fvs_other hI hR, hA, show (fun i => (sQ S' b i).map ρ') = (fun i => (sQ S b i).map ρ) from funext hQ]
theorem pf_setI {cy : Nat → ClassId} {ρ : Nat → Nat} {S : HS} {a ci k : Nat} {v : Int32} (hK : tk a = ci) (hc : ci < 10) (hk : k < nF ci) (hr : fR ci k = false) : pf cy ρ (setI S (fid ci k) a v) a = .inr (ci, (fvs ρ S ci a).set k (.int v)) := by
  have e : fvs ρ (setI S (fid ci k) a v) ci a = (fvs ρ S ci a).set k (.int v) := by
    apply List.ext_getElem?
    intro j
    by_cases hj : j = k
    · subst hj
      rw [List.getElem?_set_self (by rw [fvs_len]; exact hk), fvs_get hk]
      simp [fv, hr, sI_setI, up2]
    · rw [List.getElem?_set_ne (Ne.symm hj)]
      by_cases hjl : j < nF ci
      · rw [fvs_get hjl, fvs_get hjl]
        simp [fv, sI_setI, sR_setI, up2, fid_ne hj]
      · rw [List.getElem?_eq_none (by rw [fvs_len]; omega), List.getElem?_eq_none (by rw [fvs_len]; omega)]
  simp [pf, hK, hc, e]
theorem pf_setI2 {cy : Nat → ClassId} {ρ : Nat → Nat} {S : HS} {f a : Nat} {v : Int32} (t : Nat) (h : t ≠ a) : pf cy ρ (setI S f a v) t = pf cy ρ S t := pf_other (fun f' => by simp [sI_setI, up2, h]) (fun _ => rfl) rfl (fun _ => rfl)
theorem pf_setR {cy : Nat → ClassId} {ρ : Nat → Nat} {S : HS} {a ci k : Nat} {v : Option Nat} (hK : tk a = ci) (hc : ci < 10) (hk : k < nF ci) (hr : fR ci k = true) : pf cy ρ (setR S (fid ci k) a v) a = .inr (ci, (fvs ρ S ci a).set k (va_rf (v.map ρ))) := by
  have e : fvs ρ (setR S (fid ci k) a v) ci a = (fvs ρ S ci a).set k (va_rf (v.map ρ)) := by
    apply List.ext_getElem?
    intro j
    by_cases hj : j = k
    · subst hj
      rw [List.getElem?_set_self (by rw [fvs_len]; exact hk), fvs_get hk]
      simp [fv, hr, sR_setR, up2]
    · rw [List.getElem?_set_ne (Ne.symm hj)]
      by_cases hjl : j < nF ci
      · rw [fvs_get hjl, fvs_get hjl]
        simp [fv, sI_setR, sR_setR, up2, fid_ne hj]
      · rw [List.getElem?_eq_none (by rw [fvs_len]; omega), List.getElem?_eq_none (by rw [fvs_len]; omega)]
  simp [pf, hK, hc, e]
theorem pf_setR2 {cy : Nat → ClassId} {ρ : Nat → Nat} {S : HS} {f a : Nat} {v : Option Nat} (t : Nat) (h : t ≠ a) : pf cy ρ (setR S f a v) t = pf cy ρ S t := pf_other (fun _ => rfl) (fun f' => by simp [sR_setR, up2, h]) rfl (fun _ => rfl)
theorem pf_setA {cy : Nat → ClassId} {ρ : Nat → Nat} {S : HS} {a : Nat} {r : Nat → Int32} (h1 : ¬ tk a < 10) (h2 : tk a < 12) : pf cy ρ (setA S a r) a = .inl (cy (tk a), tn a, .inl r) := by
  simp [pf, sA_setA, va_up, h1, h2]
theorem pf_setA2 {cy : Nat → ClassId} {ρ : Nat → Nat} {S : HS} {a : Nat} {r : Nat → Int32} (t : Nat) (h : t ≠ a) : pf cy ρ (setA S a r) t = pf cy ρ S t := pf_other (fun _ => rfl) (fun _ => rfl) (by simp [sA_setA, va_up, h]) (fun _ => rfl)
theorem pf_setQ {cy : Nat → ClassId} {ρ : Nat → Nat} {S : HS} {a : Nat} {r : Nat → Option Nat} (h1 : ¬ tk a < 12) : pf cy ρ (setQ S a r) a = .inl (cy (tk a), tn a, .inr (.inr (.inr (.inr (fun i => (r i).map ρ))))) := by
  have h2 : ¬ tk a < 10 := by omega
  simp [pf, sQ_setQ, va_up, h1, h2]
theorem pf_setQ2 {cy : Nat → ClassId} {ρ : Nat → Nat} {S : HS} {a : Nat} {r : Nat → Option Nat} (t : Nat) (h : t ≠ a) : pf cy ρ (setQ S a r) t = pf cy ρ S t := pf_other (fun _ => rfl) (fun _ => rfl) rfl (fun i => by simp [sQ_setQ, va_up, h])
/-- nobody in the heap knows the tag t -/
def Fr (t : Nat) (S : HS) : Prop := (∀ f a, sR S f a ≠ some t) ∧ (∀ a i, sQ S a i ≠ some t)
theorem map_up {ρ : Nat → Nat} {t q : Nat} {r : Option Nat} (h : r ≠ some t) : r.map (va_up ρ t q) = r.map ρ := by
  cases r with
  | none => rfl
  | some x =>
    have hx : x ≠ t := fun e => h (by rw [e])
    simp [va_up, hx]
def dfs (ci : Nat) : List Value := (List.range (nF ci)).map (fun k => if fR ci k = true then Value.null else .int 0)
theorem pf_newO {cy : Nat → ClassId} {ρ : Nat → Nat} {S : HS} {a ci : Nat} (hK : tk a = ci) (hc : ci < 10) : pf cy ρ (newO S a) a = .inr (ci, dfs ci) := by
  have e : fvs ρ (newO S a) ci a = dfs ci := by
    unfold dfs fvs
    apply List.map_congr_left
    intro j _
    simp [fv, sI_newO, sR_newO, va_up, va_rf]
  simp [pf, hK, hc, e]
theorem pf_newO2 {cy : Nat → ClassId} {ρ : Nat → Nat} {S : HS} {a q : Nat} (hF : Fr a S) (t : Nat) (h : t ≠ a) : pf cy (va_up ρ a q) (newO S a) t = pf cy ρ S t := pf_other (fun f => by simp [sI_newO, va_up, h]) (fun f => by rw [sR_newO, va_up_ne _ _ h]; exact map_up (hF.1 f t)) rfl (fun i => map_up (hF.2 t i))
theorem pf_newA {cy : Nat → ClassId} {ρ : Nat → Nat} {S : HS} {a : Nat} (h1 : ¬ tk a < 10) (h2 : tk a < 12) : pf cy ρ (newA S a) a = .inl (cy (tk a), tn a, .inl (fun _ => 0)) := by
  simp [pf, sA_newA, va_up, h1, h2]
theorem pf_newQ {cy : Nat → ClassId} {ρ : Nat → Nat} {S : HS} {a : Nat} (h1 : ¬ tk a < 12) : pf cy ρ (newA S a) a = .inl (cy (tk a), tn a, .inr (.inr (.inr (.inr (fun _ => none))))) := by
  have h2 : ¬ tk a < 10 := by omega
  simp [pf, sQ_newA, va_up, h1, h2]
theorem pf_newA2 {cy : Nat → ClassId} {ρ : Nat → Nat} {S : HS} {a q : Nat} (hF : Fr a S) (t : Nat) (h : t ≠ a) : pf cy (va_up ρ a q) (newA S a) t = pf cy ρ S t := pf_other (fun f => rfl) (fun f => map_up (hF.1 f t)) (by rw [sA_newA, va_up_ne _ _ h]) (fun i => by rw [sQ_newA, va_up_ne _ _ h]; exact map_up (hF.2 t i))
theorem pf_obj {cy : Nat → ClassId} {ρ : Nat → Nat} {S : HS} {a ci : Nat} (hK : tk a = ci) (hc : ci < 10) : pf cy ρ S a = .inr (ci, fvs ρ S ci a) := by simp [pf, hK, hc]
theorem pf_arr {cy : Nat → ClassId} {ρ : Nat → Nat} {S : HS} {a : Nat} (h1 : ¬ tk a < 10) (h2 : tk a < 12) : pf cy ρ S a = .inl (cy (tk a), tn a, .inl (sA S a)) := by simp [pf, h1, h2]
theorem pf_arq {cy : Nat → ClassId} {ρ : Nat → Nat} {S : HS} {a : Nat} (h1 : ¬ tk a < 12) : pf cy ρ S a = .inl (cy (tk a), tn a, .inr (.inr (.inr (.inr (fun i => (sQ S a i).map ρ))))) := by
  have h2 : ¬ tk a < 10 := by omega
  simp [pf, h1, h2]
/-- values whose tags are live -/
def okV (L : List Nat) (v : Value) : Prop := match v with
  | .ref t => t ∈ L
  | _ => True
def okS (L : List Nat) : List Value → Prop
  | [] => True
  | v :: r => okV L v ∧ okS L r
def okL (L : List Nat) : List (Option Value) → Prop
  | [] => True
  | none :: r => okL L r
  | some v :: r => okV L v ∧ okL L r
theorem okL_at {L : List Nat} : ∀ {lv : List (Option Value)} {i : Nat} {v : Value}, okL L lv → lv[i]? = some (some v) → okV L v
  | [], i, v, _, h => by simp at h
  | none :: r, 0, v, _, h => by simp at h
  | none :: r, i + 1, v, h0, h => okL_at (lv := r) h0 (by simpa using h)
  | some w :: r, 0, v, h0, h => by
    have e : w = v := by simpa using h
    rw [← e]
    exact h0.1
  | some w :: r, i + 1, v, h0, h => okL_at (lv := r) h0.2 (by simpa using h)
theorem okL_set {L : List Nat} : ∀ {lv : List (Option Value)} {i : Nat} {v : Value}, okL L lv → okV L v → okL L (lv.set i (some v))
  | [], i, v, _, h => trivial
  | none :: r, 0, v, h0, h => ⟨h, h0⟩
  | none :: r, i + 1, v, h0, h => okL_set (lv := r) h0 h
  | some w :: r, 0, v, h0, h => ⟨h, h0.2⟩
  | some w :: r, i + 1, v, h0, h => ⟨h0.1, okL_set (lv := r) h0.2 h⟩
theorem okL_setN {L : List Nat} : ∀ {lv : List (Option Value)} {i : Nat}, okL L lv → okL L (lv.set i none)
  | [], i, _ => trivial
  | none :: r, 0, h0 => h0
  | none :: r, i + 1, h0 => okL_setN (lv := r) h0
  | some w :: r, 0, h0 => h0.2
  | some w :: r, i + 1, h0 => ⟨h0.1, okL_setN (lv := r) h0.2⟩
theorem okV_mono {L L' : List Nat} (h : ∀ t ∈ L, t ∈ L') {v : Value} (hv : okV L v) : okV L' v := by
  cases v <;> first | trivial | exact h _ hv
theorem okS_mono {L L' : List Nat} (h : ∀ t ∈ L, t ∈ L') : ∀ {st : List Value}, okS L st → okS L' st
  | [], _ => trivial
  | v :: r, hv => ⟨okV_mono h hv.1, okS_mono h hv.2⟩
theorem okL_mono {L L' : List Nat} (h : ∀ t ∈ L, t ∈ L') : ∀ {lv : List (Option Value)}, okL L lv → okL L' lv
  | [], _ => trivial
  | none :: r, hv => okL_mono (lv := r) h hv
  | some v :: r, hv => ⟨okV_mono h hv.1, okL_mono h hv.2⟩
theorem rn_eq {L : List Nat} {ρ ρ' : Nat → Nat} (h : ∀ t ∈ L, ρ' t = ρ t) {v : Value} (hv : okV L v) : rn ρ' v = rn ρ v := by
  cases v <;> first | rfl | exact congrArg Value.ref (h _ hv)
theorem rnS_eq {L : List Nat} {ρ ρ' : Nat → Nat} (h : ∀ t ∈ L, ρ' t = ρ t) : ∀ {st : List Value}, okS L st → st.map (rn ρ') = st.map (rn ρ)
  | [], _ => rfl
  | v :: r, hv => by rw [List.map_cons, List.map_cons, rn_eq h hv.1, rnS_eq h hv.2]
theorem rnL_eq {L : List Nat} {ρ ρ' : Nat → Nat} (h : ∀ t ∈ L, ρ' t = ρ t) : ∀ {lv : List (Option Value)}, okL L lv → lv.map (Option.map (rn ρ')) = lv.map (Option.map (rn ρ))
  | [], _ => rfl
  | none :: r, hv => by rw [List.map_cons, List.map_cons, rnL_eq (lv := r) h hv]; rfl
  | some v :: r, hv => by rw [List.map_cons, List.map_cons, rnL_eq h hv.2, Option.map_some, Option.map_some, rn_eq h hv.1]
