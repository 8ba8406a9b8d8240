/-! ===== the judgement R: one method's frame over a heap HS; a row an instruction ===== -/
def tyK (cy : Nat → ClassId) : List (ClassId × FieldType) := [(cy 10, .int), (cy 11, .boolean), (cy 12, .object RX0), (cy 13, .object RX2), (cy 14, .object RX5), (cy 15, .object RX7)]
def nestW : List Cond := [.methodLinkNest RX8 11 yX4_init RX8, .methodLinkNest RX8 36 yX5_init RX8, .methodLinkNest RX8 47 yX3_init RX8, .methodLinkNest RX8 54 yX1_init RX8, .methodLinkNest RX8 61 yX6_init RX8]
def KK (G : va_G) (cy : Nat → ClassId) (U : State) : Prop := va_K G vwCl (tyK cy) U ∧ (∀ w ∈ nestW, va_Nw w U) ∧ (va_AO RX0 U ∧ va_AO RX2 U ∧ va_AO RX5 U ∧ va_AO RX7 U)
theorem KK.warm {G : va_G} {cy : Nat → ClassId} {s U : State} (hW : s.WarmedH U.vm) (h : KK G cy s) : KK G cy U := by
  obtain ⟨h1, h2, h3, h4, h5, h6⟩ := h
  refine ⟨va_K.moved hW.alike h1, fun w hw => ?_, va_AO.moved hW.alike h3, va_AO.moved hW.alike h4, va_AO.moved hW.alike h5, va_AO.moved hW.alike h6⟩
  have hz := h2 w hw
  simp only [nestW, List.mem_cons, List.not_mem_nil, or_false] at hw
  rcases hw with rfl | rfl | rfl | rfl | rfl <;> exact va_Nw.warmM hW hz
theorem KK.calling {G : va_G} {cy : Nat → ClassId} {U : State} {g : JFrame} {mk : MethodId} {a : Array Value} (h : KK G cy U) : KK G cy (U.calling g mk a) := by
  obtain ⟨h1, h2, h3, h4, h5, h6⟩ := h
  have e : U.vm.Alike (U.calling g mk a).vm := Vm.Alike.refl U.vm
  refine ⟨va_K.moved e h1, fun w hw => ?_, va_AO.moved e h3, va_AO.moved e h4, va_AO.moved e h5, va_AO.moved e h6⟩
  have hz := h2 w hw
  simp only [nestW, List.mem_cons, List.not_mem_nil, or_false] at hw
  rcases hw with rfl | rfl | rfl | rfl | rfl <;> exact va_Nw.same rfl rfl hz
/-- locals, a place each; none: not known -/
def la : Nat → List (Option Value) → List (Nat × Value)
  | _, [] => []
  | i, none :: r => la (i + 1) r
  | i, some v :: r => (i, v) :: la (i + 1) r
theorem la_mem : ∀ (lv : List (Option Value)) (j i : Nat) (v : Value), lv[i]? = some (some v) → (j + i, v) ∈ la j lv
  | [], j, i, v, h => by simp at h
  | none :: r, j, 0, v, h => by simp at h
  | none :: r, j, i + 1, v, h => by
    have := la_mem r (j + 1) i v (by simpa using h)
    rw [show j + 1 + i = j + (i + 1) by omega] at this
    exact this
  | some w :: r, j, 0, v, h => by
    have e : w = v := by simpa using h
    subst e
    exact List.mem_cons_self
  | some w :: r, j, i + 1, v, h => by
    have := la_mem r (j + 1) i v (by simpa using h)
    rw [show j + 1 + i = j + (i + 1) by omega] at this
    exact List.mem_cons_of_mem _ this
theorem la_of : ∀ (lv : List (Option Value)) (j : Nat) (q : Nat × Value), q ∈ la j lv → ∃ i, q.1 = j + i ∧ lv[i]? = some (some q.2)
  | [], j, q, h => by simp [la] at h
  | none :: r, j, q, h => by
    obtain ⟨i, h1, h2⟩ := la_of r (j + 1) q h
    exact ⟨i + 1, by omega, by simpa using h2⟩
  | some w :: r, j, q, h => by
    rcases List.mem_cons.mp h with h | h
    · subst h
      exact ⟨0, by simp, by simp⟩
    · obtain ⟨i, h1, h2⟩ := la_of r (j + 1) q h
      exact ⟨i + 1, by omega, by simpa using h2⟩
def lh (ls : Array Slot) (nL : Nat) (lv : List (Option Value)) : Prop := lv_has ls nL (la 0 lv)
theorem lh_at {ls : Array Slot} {nL i : Nat} {lv : List (Option Value)} {v : Value} (h : lh ls nL lv) (hi : lv[i]? = some (some v)) : ls[i]? = some (.val v) := by
  have := h.2.2 (0 + i, v) (la_mem lv 0 i v hi)
  simpa using this
def okp (a : Option Value) : Bool := match a with
  | some v => decide (v.category = 1)
  | none => true
theorem lh_set {ls : Array Slot} {nL i : Nat} {lv : List (Option Value)} {v : Value} (h : lv_has ls nL ((i, v) :: (la 0 lv).filter (fun q => !(q.1 == i) && !(q.1 + 1 == i && q.2.category == 2)))) (hp : ∀ a, i = a + 1 → okp (lv.getD a none) = true) : lh ls nL (lv.set i (some v)) := by
  refine ⟨h.1, h.2.1, fun q hq => h.2.2 q ?_⟩
  obtain ⟨j, h1, h2⟩ := la_of _ _ q hq
  have h1 : q.1 = j := by omega
  by_cases hj : j = i
  · subst hj
    have hl : j < lv.length := by
      have := (List.getElem?_eq_some_iff.mp h2).1
      simpa using this
    rw [List.getElem?_set_self hl] at h2
    have e : v = q.2 := by simpa using h2
    rw [e, ← h1]
    exact List.mem_cons_self
  · rw [List.getElem?_set_ne (Ne.symm hj)] at h2
    apply List.mem_cons_of_mem
    have hm := la_mem lv 0 j q.2 h2
    rw [Nat.zero_add, ← h1] at hm
    refine List.mem_filter.mpr ⟨hm, ?_⟩
    have e1 : (q.1 == i) = false := by simp [h1, hj]
    rw [e1]
    by_cases e2 : q.1 + 1 = i
    · have h3 := hp q.1 e2.symm
      rw [h1] at h3
      have e4 : lv.getD j none = some q.2 := by simp [List.getD, h2]
      rw [e4] at h3
      have h5 : q.2.category = 1 := by simpa [okp] using h3
      simp [h5]
    · have e3 : (q.1 + 1 == i) = false := by simp [e2]
      rw [e3]
      rfl
theorem lh_setL {ls : Array Slot} {nL i : Nat} {lv : List (Option Value)} {v : Value} (h : lv_has ls nL ((i, v) :: (la 0 lv).filter (fun q => !(q.1 == i) && (!(q.1 == i + 1) && !(q.1 + 1 == i && q.2.category == 2))))) (hp : ∀ a, i = a + 1 → okp (lv.getD a none) = true) : lh ls nL ((lv.set i (some v)).set (i + 1) none) := by
  refine ⟨h.1, h.2.1, fun q hq => h.2.2 q ?_⟩
  obtain ⟨j, h1, h2⟩ := la_of _ _ q hq
  have h1 : q.1 = j := by omega
  by_cases hj2 : j = i + 1
  · subst hj2
    by_cases hl : i + 1 < (lv.set i (some v)).length
    · rw [List.getElem?_set_self hl] at h2
      simp at h2
    · rw [List.getElem?_eq_none (by simpa using hl)] at h2
      simp at h2
  rw [List.getElem?_set_ne (Ne.symm hj2)] at h2
  by_cases hj : j = i
  · subst hj
    have hl : j < lv.length := by
      have := (List.getElem?_eq_some_iff.mp h2).1
      simpa using this
    rw [List.getElem?_set_self hl] at h2
    have e : v = q.2 := by simpa using h2
    rw [e, ← h1]
    exact List.mem_cons_self
  · rw [List.getElem?_set_ne (Ne.symm hj)] at h2
    apply List.mem_cons_of_mem
    have hm := la_mem lv 0 j q.2 h2
    rw [Nat.zero_add, ← h1] at hm
    refine List.mem_filter.mpr ⟨hm, ?_⟩
    have e1 : (q.1 == i) = false := by simp [h1, hj]
    have e1' : (q.1 == i + 1) = false := by simp [h1, hj2]
    rw [e1, e1']
    by_cases e2 : q.1 + 1 = i
    · have h3 := hp q.1 e2.symm
      rw [h1] at h3
      have e4 : lv.getD j none = some q.2 := by simp [List.getD, h2]
      rw [e4] at h3
      have h5 : q.2.category = 1 := by simpa [okp] using h3
      simp [h5]
    · have e3 : (q.1 + 1 == i) = false := by simp [e2]
      rw [e3]
      rfl
theorem okp_map {ρ : Nat → Nat} {lv : List (Option Value)} {a : Nat} (h : okp (lv.getD a none) = true) : okp ((lv.map (Option.map (rn ρ))).getD a none) = true := by
  simp only [List.getD, List.getElem?_map] at h ⊢
  cases hx : lv[a]? with
  | none => rfl
  | some x =>
    rw [hx] at h
    cases x with
    | none => rfl
    | some w =>
      simp only [Option.map_some, Option.getD_some, okp, rn_cat] at h ⊢
      exact h
def lhm (ls : Array Slot) (nL : Nat) (ρ : Nat → Nat) (lv : List (Option Value)) : Prop := lh ls nL (lv.map (Option.map (rn ρ)))
theorem lhm_at {ls : Array Slot} {nL i : Nat} {ρ : Nat → Nat} {lv : List (Option Value)} {v : Value} (h : lhm ls nL ρ lv) (hi : lv[i]? = some (some v)) : ls[i]? = some (.val (rn ρ v)) := lh_at h (by simp [hi])
theorem lhm_set {ls : Array Slot} {nL i : Nat} {ρ : Nat → Nat} {lv : List (Option Value)} {v : Value} (h : lv_has ls nL ((i, rn ρ v) :: (la 0 (lv.map (Option.map (rn ρ)))).filter (fun q => !(q.1 == i) && !(q.1 + 1 == i && q.2.category == 2)))) (hp : ∀ a, i = a + 1 → okp (lv.getD a none) = true) : lhm ls nL ρ (lv.set i (some v)) := by
  unfold lhm
  rw [List.map_set]
  exact lh_set h (fun a ha => okp_map (hp a ha))
theorem lhm_setL {ls : Array Slot} {nL i : Nat} {ρ : Nat → Nat} {lv : List (Option Value)} {v : Value} (h : lv_has ls nL ((i, rn ρ v) :: (la 0 (lv.map (Option.map (rn ρ)))).filter (fun q => !(q.1 == i) && (!(q.1 == i + 1) && !(q.1 + 1 == i && q.2.category == 2))))) (hp : ∀ a, i = a + 1 → okp (lv.getD a none) = true) : lhm ls nL ρ ((lv.set i (some v)).set (i + 1) none) := by
  unfold lhm
  rw [List.map_set, List.map_set]
  exact lh_setL h (fun a ha => okp_map (hp a ha))
theorem la_map (f : Value → Value) : ∀ (lv : List (Option Value)) (j : Nat), la j (lv.map (Option.map f)) = (la j lv).map (fun q => (q.1, f q.2))
  | [], j => rfl
  | none :: r, j => la_map f r (j + 1)
  | some v :: r, j => by
    show (j, f v) :: la (j + 1) (r.map (Option.map f)) = _
    rw [la_map f r (j + 1)]
    rfl
theorem args_map (ρ : Nat → Nat) : ∀ (vs : List Value) (j : Nat), lv_args j (vs.map (rn ρ)) = (lv_args j vs).map (fun q => (q.1, rn ρ q.2))
  | [], j => rfl
  | v :: r, j => by
    show (j, rn ρ v) :: lv_args (if (rn ρ v).category = 2 then j + 2 else j + 1) (r.map (rn ρ)) = _
    rw [args_map ρ r, rn_cat]
    rfl
theorem sl_map (ρ : Nat → Nat) : ∀ (vs : List Value), (lg_sl (vs.map (rn ρ))).length = (lg_sl vs).length
  | [] => rfl
  | v :: r => by
    have ih := sl_map ρ r
    simp only [lg_sl, List.map_cons, List.flatMap_cons, List.length_append, rn_cat] at ih ⊢
    rw [ih]
    split <;> simp
theorem okL_of {L : List Nat} : ∀ (lv : List (Option Value)) (j : Nat), (∀ q ∈ la j lv, okV L q.2) → okL L lv
  | [], j, h => trivial
  | none :: r, j, h => okL_of r (j + 1) h
  | some v :: r, j, h => ⟨h (j, v) List.mem_cons_self, okL_of r (j + 1) (fun q hq => h q (List.mem_cons_of_mem _ hq))⟩
theorem okS_args {L : List Nat} : ∀ (vs : List Value) (j : Nat), okS L vs → ∀ q ∈ lv_args j vs, okV L q.2
  | [], j, h, q, hq => by simp [lv_args] at hq
  | v :: r, j, h, q, hq => by
    rcases List.mem_cons.mp hq with e | e
    · rw [e]; exact h.1
    · exact okS_args r _ h.2 q e
def rmO (d mc ms : Nat) : Room := { frames := d, cells := mc, slots := ms, locals := 40 * d }
/-- what a method's end says: the answer, the heap behind it, the old tags where they were, and that nothing else has changed -/
def Qcn (G : va_G) (cy : Nat → ClassId) (Q : Option Value → HS → Prop) (A : Nat → Prop) (L0 : List Nat) (ρ0 : Nat → Nat) : Array Value → State → Outcome → State → Prop := fun _ st oc t => (∃ (v : Option Value) (S : HS) (ρ : Nat → Nat), oc = .returned (v.map (rn ρ)) ∧ Q v S ∧ (∀ t ∈ L0, ρ t = ρ0 t) ∧ (∀ t ∈ L0, t ∈ sL S) ∧ (∀ x, v = some x → okV (sL S) x) ∧ va_P G vwCl (pool cy ρ S) t.heap ∧ va_D A (pool cy ρ S)) ∧ va_F A st t
def Pcn (G : va_G) (cy : Nat → ClassId) (ρ : Nat → Nat) (args : List Value) (S : HS) (sz : Nat) : Array Value → State → Prop := va_Pc (args.map (rn ρ)) (fun U => U.heap.size = sz ∧ va_P G vwCl (pool cy ρ S) U.heap ∧ KK G cy U ∧ va_D (fun _ => True) (pool cy ρ S))
/-- a contract: from the heap S with these arguments, at most mc cells of ms slots are made -/
def Cn (l : Launch) (G : va_G) (cy : Nat → ClassId) (y : MethodName) (b : ByteArray) (nL : Nat) (rt : Option FieldType) (d : Nat) (args : List Value) (S : HS) (mc ms : Nat) (Q : Option Value → HS → Prop) : Prop :=
  okS (sL S) args → ∀ (sz : Nat) (ρ : Nat → Nat), Met l y (Cond.code y b nL rt :: TB) (rmO d mc ms) (Pcn G cy ρ args S sz) (Qcn G cy Q (va_A (pool cy ρ S) sz) (sL S) ρ) mc ms (va_A (pool cy ρ S) sz)
def qI (Q : Int32 → HS → Prop) : Option Value → HS → Prop := fun v S => ∃ r : Int32, v = some (.int r) ∧ Q r S
def qV (Q : HS → Prop) : Option Value → HS → Prop := fun v S => v = none ∧ Q S
def qR (Q : Option Nat → HS → Prop) : Option Value → HS → Prop := fun v S => ∃ r : Option Nat, v = some (va_rf r) ∧ Q r S
def Cx (y : MethodName) (b : ByteArray) (nL : Nat) (rt : Option FieldType) (p : Program) (s : State) (m : MethodId) (args : Array Value) (meth : Method) (c : Code) : Prop :=
  p.tables.exec = Jvm.exec ∧ c.code = b ∧ meth.sig.returnType = rt ∧ c.maxLocals = nL ∧ s.vm.findClass y.cls = some m.cls ∧ (∀ w ∈ (Cond.code y b nL rt :: TB), w.before args s = true) ∧ meth.locks = false ∧ meth.name = y.name
/-- THE JUDGEMENT: at pc with these locals, this stack, this heap (all by tags), k cells of n slots made so far, the method comes to an end with Q -/
def R (l : Launch) (G : va_G) (cy : Nat → ClassId) (y : MethodName) (b : ByteArray) (nL : Nat) (rt : Option FieldType) (d mc ms : Nat) (Q : Option Value → HS → Prop) (pc : Nat) (lv : List (Option Value)) (st : List Value) (S : HS) (k n : Nat) : Prop :=
  ∀ (p : Program) (e : Env) (s : State) (m : MethodId) (args : Array Value) (below : List Frame) (meth : Method) (c : Code) (H : Heap) (locs : List Loc) (ls : Array Slot) (A : Nat → Prop) (ρ : Nat → Nat) (L0 : List Nat) (ρ0 : Nat → Nat),
    Cx y b nL rt p s m args meth c → KK G cy s → (∀ q : Nat, s.heap.size ≤ q → A q) → va_P G vwCl (pool cy ρ S) H → va_D A (pool cy ρ S) → va_S A s.heap H locs → lhm ls nL ρ lv → okL (sL S) lv → okS (sL S) st → (∀ t ∈ L0, ρ t = ρ0 t) → (∀ t ∈ L0, t ∈ sL S) →
    W p l e (rmO d mc ms) s m args below meth c H locs k n (MQ below (Qcn G cy Q A L0 ρ0) args s mc ms A) (F0 m pc ls (st.map (rn ρ)))
section RR
variable {l : Launch} {G : va_G} {cy : Nat → ClassId} {y : MethodName} {b : ByteArray} {nL : Nat} {rt : Option FieldType} {d mc ms : Nat} {Q : Option Value → HS → Prop} {pc : Nat} {lv : List (Option Value)} {st : List Value} {S : HS} {k n : Nat}
theorem Cn.of {args : List Value} (lv : List (Option Value)) (hy : plainName y.cls = true) (hl : la 0 lv = lv_args 0 args) (hn : (lg_sl args).length ≤ nL) (h : R l G cy y b nL rt d mc ms Q 0 lv [] S 0 0) : Cn l G cy y b nL rt d args S mc ms Q := by
  intro hok sz ρ
  refine Met.ofW (cc := b) (maxL := nL) (ret := rt) hy rfl ?_
  intro p e s m args' below meth c s₁ B hml hv
  obtain ⟨rfl, hsz, hP, hK, hD0⟩ := hv
  subst hsz
  have hts := atoms_spec (ws := Cond.code y b nL rt :: TB) B.pre
  have hown : s.vm.findClass y.cls = some m.cls := findClass_of_methodNamed B.named
  have hin : meth.name = y.name := (name_of_methodNamed B.named B.method).1
  have hll := lv_entry (args.map (rn ρ)) (n := nL) (by rw [sl_map]; exact hn)
  rw [lg_entry_eq]
  refine h p e s m _ below meth c s.heap [] _ (va_A (pool cy ρ S) s.heap.size) ρ (sL S) ρ ⟨B.exec, B.bytes, B.returns, hml, hown, hts, B.notSynchronized, hin⟩ hK (fun q hq => Or.inr hq) hP (hD0.self) va_S.rf ?_ ?_ trivial (fun _ _ => rfl) (fun _ h => h)
  · unfold lhm lh
    rw [la_map, hl, ← args_map]
    exact hll
  · exact okL_of lv 0 (by rw [hl]; exact okS_args args 0 hok)
theorem R.widen {k' n' : Nat} (h1 : k ≤ k') (h2 : n ≤ n') (h : R l G cy y b nL rt d mc ms Q pc lv st S k' n') : R l G cy y b nL rt d mc ms Q pc lv st S k n := by
  intro p e s m args below meth c H locs ls A ρ L0 ρ0 X hK hA hP hD hS hl hoL hoS hρ hLL
  exact W.widen h1 h2 (h p e s m args below meth c H locs ls A ρ L0 ρ0 X hK hA hP hD hS hl hoL hoS hρ hLL)
/-- what is known of the frame's tags may be used -/
theorem R.live (h : okL (sL S) lv → okS (sL S) st → R l G cy y b nL rt d mc ms Q pc lv st S k n) : R l G cy y b nL rt d mc ms Q pc lv st S k n := by
  intro p e s m args below meth c H locs ls A ρ L0 ρ0 X hK hA hP hD hS hl hoL hoS hρ hLL
  exact h hoL hoS p e s m args below meth c H locs ls A ρ L0 ρ0 X hK hA hP hD hS hl hoL hoS hρ hLL
/-- a loop: an invariant with a measure -/
theorem R.loop (I : Nat → List (Option Value) → HS → Nat → Nat → Prop) (step : ∀ (u : Nat) (lv : List (Option Value)) (S : HS) (k n : Nat), I u lv S k n → (∀ (u' : Nat) (lv' : List (Option Value)) (S' : HS) (k' n' : Nat), u' < u → I u' lv' S' k' n' → R l G cy y b nL rt d mc ms Q pc lv' st S' k' n') → R l G cy y b nL rt d mc ms Q pc lv st S k n) :
    ∀ (u : Nat) (lv : List (Option Value)) (S : HS) (k n : Nat), I u lv S k n → R l G cy y b nL rt d mc ms Q pc lv st S k n := by
  intro u
  induction u using Nat.strongRecOn with
  | ind u ih => exact fun lv S k n h => step u lv S k n h (fun u' lv' S' k' n' hu h' => ih u' hu lv' S' k' n' h')

theorem r_iconst {z : Int} {v : Int32} (hd : decode b pc = .ok (.iconst z, 1)) (hv : Int32.ofInt z = v) (h : R l G cy y b nL rt d mc ms Q (pc + 1) lv (.int v :: st) S k n) : R l G cy y b nL rt d mc ms Q pc lv st S k n := by
  intro p e s m args below meth c H locs ls A ρ L0 ρ0 X hK hA hP hD hS hl hoL hoS hρ hLL
  obtain ⟨hx, hb, hr, hml, hown, hts, hlk, hnm⟩ := id X
  exact lv_iconst hx hb hd hv (h p e s m args below meth c H locs ls A ρ L0 ρ0 X hK hA hP hD hS hl hoL ⟨trivial, hoS⟩ hρ hLL)
theorem r_bipush {z : Int} {v : Int32} (hd : decode b pc = .ok (.bipush z, 2)) (hv : (Int8.ofInt z).toInt32 = v) (h : R l G cy y b nL rt d mc ms Q (pc + 2) lv (.int v :: st) S k n) : R l G cy y b nL rt d mc ms Q pc lv st S k n := by
  intro p e s m args below meth c H locs ls A ρ L0 ρ0 X hK hA hP hD hS hl hoL hoS hρ hLL
  obtain ⟨hx, hb, hr, hml, hown, hts, hlk, hnm⟩ := id X
  exact lv_bipush hx hb hd hv (h p e s m args below meth c H locs ls A ρ L0 ρ0 X hK hA hP hD hS hl hoL ⟨trivial, hoS⟩ hρ hLL)
theorem r_sipush {z : Int} {v : Int32} (hd : decode b pc = .ok (.sipush z, 3)) (hv : (Int16.ofInt z).toInt32 = v) (h : R l G cy y b nL rt d mc ms Q (pc + 3) lv (.int v :: st) S k n) : R l G cy y b nL rt d mc ms Q pc lv st S k n := by
  intro p e s m args below meth c H locs ls A ρ L0 ρ0 X hK hA hP hD hS hl hoL hoS hρ hLL
  obtain ⟨hx, hb, hr, hml, hown, hts, hlk, hnm⟩ := id X
  exact lv_sipush hx hb hd hv (h p e s m args below meth c H locs ls A ρ L0 ρ0 X hK hA hP hD hS hl hoL ⟨trivial, hoS⟩ hρ hLL)
theorem r_lconst {z : Fin 2} {v : Int64} (hd : decode b pc = .ok (.lconst z, 1)) (hv : Int64.ofNat (z : Nat) = v) (h : R l G cy y b nL rt d mc ms Q (pc + 1) lv (.long v :: st) S k n) : R l G cy y b nL rt d mc ms Q pc lv st S k n := by
  intro p e s m args below meth c H locs ls A ρ L0 ρ0 X hK hA hP hD hS hl hoL hoS hρ hLL
  obtain ⟨hx, hb, hr, hml, hown, hts, hlk, hnm⟩ := id X
  exact lv_lconst hx hb hd hv (h p e s m args below meth c H locs ls A ρ L0 ρ0 X hK hA hP hD hS hl hoL ⟨trivial, hoS⟩ hρ hLL)
theorem r_null  (hd : decode b pc = .ok (.aconst_null, 1)) (h : R l G cy y b nL rt d mc ms Q (pc + 1) lv (.null :: st) S k n) : R l G cy y b nL rt d mc ms Q pc lv st S k n := by
  intro p e s m args below meth c H locs ls A ρ L0 ρ0 X hK hA hP hD hS hl hoL hoS hρ hLL
  obtain ⟨hx, hb, hr, hml, hown, hts, hlk, hnm⟩ := id X
  exact lv_null hx hb hd (h p e s m args below meth c H locs ls A ρ L0 ρ0 X hK hA hP hD hS hl hoL ⟨trivial, hoS⟩ hρ hLL)
theorem r_iload_n {j : Fin 4} {i : Nat} {x : Int32} (hd : decode b pc = .ok (.iload_n j, 1)) (hi : (j : Nat) = i) (hv : lv[i]? = some (some (.int x))) (h : R l G cy y b nL rt d mc ms Q (pc + 1) lv (.int x :: st) S k n) : R l G cy y b nL rt d mc ms Q pc lv st S k n := by
  intro p e s m args below meth c H locs ls A ρ L0 ρ0 X hK hA hP hD hS hl hoL hoS hρ hLL
  obtain ⟨hx, hb, hr, hml, hown, hts, hlk, hnm⟩ := id X
  exact lv_iload_n hx hb hd hi (lhm_at hl hv) (h p e s m args below meth c H locs ls A ρ L0 ρ0 X hK hA hP hD hS hl hoL ⟨okL_at hoL hv, hoS⟩ hρ hLL)
theorem r_iload {i : Nat} {x : Int32} (hd : decode b pc = .ok (.iload i, 2)) (hv : lv[i]? = some (some (.int x))) (h : R l G cy y b nL rt d mc ms Q (pc + 2) lv (.int x :: st) S k n) : R l G cy y b nL rt d mc ms Q pc lv st S k n := by
  intro p e s m args below meth c H locs ls A ρ L0 ρ0 X hK hA hP hD hS hl hoL hoS hρ hLL
  obtain ⟨hx, hb, hr, hml, hown, hts, hlk, hnm⟩ := id X
  exact lv_iload hx hb hd (lhm_at hl hv) (h p e s m args below meth c H locs ls A ρ L0 ρ0 X hK hA hP hD hS hl hoL ⟨okL_at hoL hv, hoS⟩ hρ hLL)
theorem r_lload_n {j : Fin 4} {i : Nat} {x : Int64} (hd : decode b pc = .ok (.lload_n j, 1)) (hi : (j : Nat) = i) (hv : lv[i]? = some (some (.long x))) (h : R l G cy y b nL rt d mc ms Q (pc + 1) lv (.long x :: st) S k n) : R l G cy y b nL rt d mc ms Q pc lv st S k n := by
  intro p e s m args below meth c H locs ls A ρ L0 ρ0 X hK hA hP hD hS hl hoL hoS hρ hLL
  obtain ⟨hx, hb, hr, hml, hown, hts, hlk, hnm⟩ := id X
  exact lv_lload_n hx hb hd hi (lhm_at hl hv) (h p e s m args below meth c H locs ls A ρ L0 ρ0 X hK hA hP hD hS hl hoL ⟨okL_at hoL hv, hoS⟩ hρ hLL)
theorem r_lload {i : Nat} {x : Int64} (hd : decode b pc = .ok (.lload i, 2)) (hv : lv[i]? = some (some (.long x))) (h : R l G cy y b nL rt d mc ms Q (pc + 2) lv (.long x :: st) S k n) : R l G cy y b nL rt d mc ms Q pc lv st S k n := by
  intro p e s m args below meth c H locs ls A ρ L0 ρ0 X hK hA hP hD hS hl hoL hoS hρ hLL
  obtain ⟨hx, hb, hr, hml, hown, hts, hlk, hnm⟩ := id X
  exact lv_lload hx hb hd (lhm_at hl hv) (h p e s m args below meth c H locs ls A ρ L0 ρ0 X hK hA hP hD hS hl hoL ⟨okL_at hoL hv, hoS⟩ hρ hLL)
theorem r_aload_n {j : Fin 4} {i : Nat} {x : Nat} (hd : decode b pc = .ok (.aload_n j, 1)) (hi : (j : Nat) = i) (hv : lv[i]? = some (some (.ref x))) (h : R l G cy y b nL rt d mc ms Q (pc + 1) lv (.ref x :: st) S k n) : R l G cy y b nL rt d mc ms Q pc lv st S k n := by
  intro p e s m args below meth c H locs ls A ρ L0 ρ0 X hK hA hP hD hS hl hoL hoS hρ hLL
  obtain ⟨hx, hb, hr, hml, hown, hts, hlk, hnm⟩ := id X
  exact lv_aload_n hx hb hd hi (lhm_at hl hv) (h p e s m args below meth c H locs ls A ρ L0 ρ0 X hK hA hP hD hS hl hoL ⟨okL_at hoL hv, hoS⟩ hρ hLL)
theorem r_aload {i : Nat} {x : Nat} (hd : decode b pc = .ok (.aload i, 2)) (hv : lv[i]? = some (some (.ref x))) (h : R l G cy y b nL rt d mc ms Q (pc + 2) lv (.ref x :: st) S k n) : R l G cy y b nL rt d mc ms Q pc lv st S k n := by
  intro p e s m args below meth c H locs ls A ρ L0 ρ0 X hK hA hP hD hS hl hoL hoS hρ hLL
  obtain ⟨hx, hb, hr, hml, hown, hts, hlk, hnm⟩ := id X
  exact lv_aload hx hb hd (lhm_at hl hv) (h p e s m args below meth c H locs ls A ρ L0 ρ0 X hK hA hP hD hS hl hoL ⟨okL_at hoL hv, hoS⟩ hρ hLL)
theorem r_aload_nN {j : Fin 4} {i : Nat} (hd : decode b pc = .ok (.aload_n j, 1)) (hi : (j : Nat) = i) (hv : lv[i]? = some (some .null)) (h : R l G cy y b nL rt d mc ms Q (pc + 1) lv (.null :: st) S k n) : R l G cy y b nL rt d mc ms Q pc lv st S k n := by
  intro p e s m args below meth c H locs ls A ρ L0 ρ0 X hK hA hP hD hS hl hoL hoS hρ hLL
  obtain ⟨hx, hb, hr, hml, hown, hts, hlk, hnm⟩ := id X
  exact lv_aload_nN hx hb hd hi (lhm_at hl hv) (h p e s m args below meth c H locs ls A ρ L0 ρ0 X hK hA hP hD hS hl hoL ⟨trivial, hoS⟩ hρ hLL)
theorem r_aloadN {i : Nat} (hd : decode b pc = .ok (.aload i, 2)) (hv : lv[i]? = some (some .null)) (h : R l G cy y b nL rt d mc ms Q (pc + 2) lv (.null :: st) S k n) : R l G cy y b nL rt d mc ms Q pc lv st S k n := by
  intro p e s m args below meth c H locs ls A ρ L0 ρ0 X hK hA hP hD hS hl hoL hoS hρ hLL
  obtain ⟨hx, hb, hr, hml, hown, hts, hlk, hnm⟩ := id X
  exact lv_aloadN hx hb hd (lhm_at hl hv) (h p e s m args below meth c H locs ls A ρ L0 ρ0 X hK hA hP hD hS hl hoL ⟨trivial, hoS⟩ hρ hLL)
theorem r_istore_n {j : Fin 4} {i : Nat} {x : Int32} (hd : decode b pc = .ok (.istore_n j, 1)) (hi : (j : Nat) = i) (hn : i < nL) (hp : ∀ a, i = a + 1 → okp (lv.getD a none) = true) (h : R l G cy y b nL rt d mc ms Q (pc + 1) (lv.set i (some (.int x))) st S k n) : R l G cy y b nL rt d mc ms Q pc lv (.int x :: st) S k n := by
  intro p e s m args below meth c H locs ls A ρ L0 ρ0 X hK hA hP hD hS hl hoL hoS hρ hLL
  obtain ⟨hx, hb, hr, hml, hown, hts, hlk, hnm⟩ := id X
  exact lv_istore_n hx hb hd hi hl hn rfl (fun ls2 hl2 => h p e s m args below meth c H locs ls2 A ρ L0 ρ0 X hK hA hP hD hS (lhm_set (v := .int x) hl2 hp) (okL_set hoL hoS.1) hoS.2 hρ hLL)
theorem r_istore {i : Nat} {x : Int32} (hd : decode b pc = .ok (.istore i, 2)) (hn : i < nL) (hp : ∀ a, i = a + 1 → okp (lv.getD a none) = true) (h : R l G cy y b nL rt d mc ms Q (pc + 2) (lv.set i (some (.int x))) st S k n) : R l G cy y b nL rt d mc ms Q pc lv (.int x :: st) S k n := by
  intro p e s m args below meth c H locs ls A ρ L0 ρ0 X hK hA hP hD hS hl hoL hoS hρ hLL
  obtain ⟨hx, hb, hr, hml, hown, hts, hlk, hnm⟩ := id X
  exact lv_istore hx hb hd hl hn rfl (fun ls2 hl2 => h p e s m args below meth c H locs ls2 A ρ L0 ρ0 X hK hA hP hD hS (lhm_set (v := .int x) hl2 hp) (okL_set hoL hoS.1) hoS.2 hρ hLL)
theorem r_astore_n {j : Fin 4} {i : Nat} {x : Nat} (hd : decode b pc = .ok (.astore_n j, 1)) (hi : (j : Nat) = i) (hn : i < nL) (hp : ∀ a, i = a + 1 → okp (lv.getD a none) = true) (h : R l G cy y b nL rt d mc ms Q (pc + 1) (lv.set i (some (.ref x))) st S k n) : R l G cy y b nL rt d mc ms Q pc lv (.ref x :: st) S k n := by
  intro p e s m args below meth c H locs ls A ρ L0 ρ0 X hK hA hP hD hS hl hoL hoS hρ hLL
  obtain ⟨hx, hb, hr, hml, hown, hts, hlk, hnm⟩ := id X
  exact lv_astore_n hx hb hd hi hl hn rfl (fun ls2 hl2 => h p e s m args below meth c H locs ls2 A ρ L0 ρ0 X hK hA hP hD hS (lhm_set (v := .ref x) hl2 hp) (okL_set hoL hoS.1) hoS.2 hρ hLL)
theorem r_astore {i : Nat} {x : Nat} (hd : decode b pc = .ok (.astore i, 2)) (hn : i < nL) (hp : ∀ a, i = a + 1 → okp (lv.getD a none) = true) (h : R l G cy y b nL rt d mc ms Q (pc + 2) (lv.set i (some (.ref x))) st S k n) : R l G cy y b nL rt d mc ms Q pc lv (.ref x :: st) S k n := by
  intro p e s m args below meth c H locs ls A ρ L0 ρ0 X hK hA hP hD hS hl hoL hoS hρ hLL
  obtain ⟨hx, hb, hr, hml, hown, hts, hlk, hnm⟩ := id X
  exact lv_astore hx hb hd hl hn rfl (fun ls2 hl2 => h p e s m args below meth c H locs ls2 A ρ L0 ρ0 X hK hA hP hD hS (lhm_set (v := .ref x) hl2 hp) (okL_set hoL hoS.1) hoS.2 hρ hLL)
theorem r_astore_nN {j : Fin 4} {i : Nat}  (hd : decode b pc = .ok (.astore_n j, 1)) (hi : (j : Nat) = i) (hn : i < nL) (hp : ∀ a, i = a + 1 → okp (lv.getD a none) = true) (h : R l G cy y b nL rt d mc ms Q (pc + 1) (lv.set i (some (.null))) st S k n) : R l G cy y b nL rt d mc ms Q pc lv (.null :: st) S k n := by
  intro p e s m args below meth c H locs ls A ρ L0 ρ0 X hK hA hP hD hS hl hoL hoS hρ hLL
  obtain ⟨hx, hb, hr, hml, hown, hts, hlk, hnm⟩ := id X
  exact lv_astore_nN hx hb hd hi hl hn rfl (fun ls2 hl2 => h p e s m args below meth c H locs ls2 A ρ L0 ρ0 X hK hA hP hD hS (lhm_set (v := .null) hl2 hp) (okL_set hoL hoS.1) hoS.2 hρ hLL)
theorem r_astoreN {i : Nat}  (hd : decode b pc = .ok (.astore i, 2)) (hn : i < nL) (hp : ∀ a, i = a + 1 → okp (lv.getD a none) = true) (h : R l G cy y b nL rt d mc ms Q (pc + 2) (lv.set i (some (.null))) st S k n) : R l G cy y b nL rt d mc ms Q pc lv (.null :: st) S k n := by
  intro p e s m args below meth c H locs ls A ρ L0 ρ0 X hK hA hP hD hS hl hoL hoS hρ hLL
  obtain ⟨hx, hb, hr, hml, hown, hts, hlk, hnm⟩ := id X
  exact lv_astoreN hx hb hd hl hn rfl (fun ls2 hl2 => h p e s m args below meth c H locs ls2 A ρ L0 ρ0 X hK hA hP hD hS (lhm_set (v := .null) hl2 hp) (okL_set hoL hoS.1) hoS.2 hρ hLL)
theorem r_lstore_n {j : Fin 4} {i : Nat} {x : Int64} (hd : decode b pc = .ok (.lstore_n j, 1)) (hi : (j : Nat) = i) (hn : i + 1 < nL) (hp : ∀ a, i = a + 1 → okp (lv.getD a none) = true) (h : R l G cy y b nL rt d mc ms Q (pc + 1) ((lv.set i (some (.long x))).set (i + 1) none) st S k n) : R l G cy y b nL rt d mc ms Q pc lv (.long x :: st) S k n := by
  intro p e s m args below meth c H locs ls A ρ L0 ρ0 X hK hA hP hD hS hl hoL hoS hρ hLL
  obtain ⟨hx, hb, hr, hml, hown, hts, hlk, hnm⟩ := id X
  exact lv_lstore_n hx hb hd hi hl hn rfl (fun ls2 hl2 => h p e s m args below meth c H locs ls2 A ρ L0 ρ0 X hK hA hP hD hS (lhm_setL (v := .long x) hl2 hp) (okL_setN (okL_set hoL hoS.1)) hoS.2 hρ hLL)
theorem r_lstore {i : Nat} {x : Int64} (hd : decode b pc = .ok (.lstore i, 2)) (hn : i + 1 < nL) (hp : ∀ a, i = a + 1 → okp (lv.getD a none) = true) (h : R l G cy y b nL rt d mc ms Q (pc + 2) ((lv.set i (some (.long x))).set (i + 1) none) st S k n) : R l G cy y b nL rt d mc ms Q pc lv (.long x :: st) S k n := by
  intro p e s m args below meth c H locs ls A ρ L0 ρ0 X hK hA hP hD hS hl hoL hoS hρ hLL
  obtain ⟨hx, hb, hr, hml, hown, hts, hlk, hnm⟩ := id X
  exact lv_lstore hx hb hd hl hn rfl (fun ls2 hl2 => h p e s m args below meth c H locs ls2 A ρ L0 ρ0 X hK hA hP hD hS (lhm_setL (v := .long x) hl2 hp) (okL_setN (okL_set hoL hoS.1)) hoS.2 hρ hLL)
theorem r_iinc {i : Nat} {z : Int} {x v : Int32} (hd : decode b pc = .ok (.iinc i z, 3)) (hv : lv[i]? = some (some (.int x))) (hz : x + Int32.ofInt z = v) (hn : i < nL) (hp : ∀ a, i = a + 1 → okp (lv.getD a none) = true) (h : R l G cy y b nL rt d mc ms Q (pc + 3) (lv.set i (some (.int v))) st S k n) : R l G cy y b nL rt d mc ms Q pc lv st S k n := by
  intro p e s m args below meth c H locs ls A ρ L0 ρ0 X hK hA hP hD hS hl hoL hoS hρ hLL
  obtain ⟨hx, hb, hr, hml, hown, hts, hlk, hnm⟩ := id X
  have hm := la_mem (lv.map (Option.map (rn ρ))) 0 i (.int x) (by rw [List.getElem?_map, hv]; rfl)
  rw [Nat.zero_add] at hm
  obtain ⟨w, hw⟩ := List.getElem?_of_mem hm
  exact lv_iinc hx hb hd hl hw hz hn rfl (fun ls2 hl2 => h p e s m args below meth c H locs ls2 A ρ L0 ρ0 X hK hA hP hD hS (lhm_set (v := .int v) hl2 hp) (okL_set hoL trivial) hoS hρ hLL)
theorem r_iadd {x z : Int32} (hd : decode b pc = .ok (.iadd, 1)) (h : R l G cy y b nL rt d mc ms Q (pc + 1) lv (.int (x + z) :: st) S k n) : R l G cy y b nL rt d mc ms Q pc lv (.int z :: .int x :: st) S k n := by
  intro p e s m args below meth c H locs ls A ρ L0 ρ0 X hK hA hP hD hS hl hoL hoS hρ hLL
  obtain ⟨hx, hb, hr, hml, hown, hts, hlk, hnm⟩ := id X
  exact lv_iadd hx hb hd (h p e s m args below meth c H locs ls A ρ L0 ρ0 X hK hA hP hD hS hl hoL ⟨trivial, hoS.2.2⟩ hρ hLL)
theorem r_isub {x z : Int32} (hd : decode b pc = .ok (.isub, 1)) (h : R l G cy y b nL rt d mc ms Q (pc + 1) lv (.int (x - z) :: st) S k n) : R l G cy y b nL rt d mc ms Q pc lv (.int z :: .int x :: st) S k n := by
  intro p e s m args below meth c H locs ls A ρ L0 ρ0 X hK hA hP hD hS hl hoL hoS hρ hLL
  obtain ⟨hx, hb, hr, hml, hown, hts, hlk, hnm⟩ := id X
  exact lv_isub hx hb hd (h p e s m args below meth c H locs ls A ρ L0 ρ0 X hK hA hP hD hS hl hoL ⟨trivial, hoS.2.2⟩ hρ hLL)
theorem r_imul {x z : Int32} (hd : decode b pc = .ok (.imul, 1)) (h : R l G cy y b nL rt d mc ms Q (pc + 1) lv (.int (x * z) :: st) S k n) : R l G cy y b nL rt d mc ms Q pc lv (.int z :: .int x :: st) S k n := by
  intro p e s m args below meth c H locs ls A ρ L0 ρ0 X hK hA hP hD hS hl hoL hoS hρ hLL
  obtain ⟨hx, hb, hr, hml, hown, hts, hlk, hnm⟩ := id X
  exact lv_imul hx hb hd (h p e s m args below meth c H locs ls A ρ L0 ρ0 X hK hA hP hD hS hl hoL ⟨trivial, hoS.2.2⟩ hρ hLL)
theorem r_iand {x z : Int32} (hd : decode b pc = .ok (.iand, 1)) (h : R l G cy y b nL rt d mc ms Q (pc + 1) lv (.int (x &&& z) :: st) S k n) : R l G cy y b nL rt d mc ms Q pc lv (.int z :: .int x :: st) S k n := by
  intro p e s m args below meth c H locs ls A ρ L0 ρ0 X hK hA hP hD hS hl hoL hoS hρ hLL
  obtain ⟨hx, hb, hr, hml, hown, hts, hlk, hnm⟩ := id X
  exact lv_iand hx hb hd (h p e s m args below meth c H locs ls A ρ L0 ρ0 X hK hA hP hD hS hl hoL ⟨trivial, hoS.2.2⟩ hρ hLL)
theorem r_ior {x z : Int32} (hd : decode b pc = .ok (.ior, 1)) (h : R l G cy y b nL rt d mc ms Q (pc + 1) lv (.int (x ||| z) :: st) S k n) : R l G cy y b nL rt d mc ms Q pc lv (.int z :: .int x :: st) S k n := by
  intro p e s m args below meth c H locs ls A ρ L0 ρ0 X hK hA hP hD hS hl hoL hoS hρ hLL
  obtain ⟨hx, hb, hr, hml, hown, hts, hlk, hnm⟩ := id X
  exact lv_ior hx hb hd (h p e s m args below meth c H locs ls A ρ L0 ρ0 X hK hA hP hD hS hl hoL ⟨trivial, hoS.2.2⟩ hρ hLL)
theorem r_ixor {x z : Int32} (hd : decode b pc = .ok (.ixor, 1)) (h : R l G cy y b nL rt d mc ms Q (pc + 1) lv (.int (x ^^^ z) :: st) S k n) : R l G cy y b nL rt d mc ms Q pc lv (.int z :: .int x :: st) S k n := by
  intro p e s m args below meth c H locs ls A ρ L0 ρ0 X hK hA hP hD hS hl hoL hoS hρ hLL
  obtain ⟨hx, hb, hr, hml, hown, hts, hlk, hnm⟩ := id X
  exact lv_ixor hx hb hd (h p e s m args below meth c H locs ls A ρ L0 ρ0 X hK hA hP hD hS hl hoL ⟨trivial, hoS.2.2⟩ hρ hLL)
theorem r_ishl {x z : Int32} (hd : decode b pc = .ok (.ishl, 1)) (h : R l G cy y b nL rt d mc ms Q (pc + 1) lv (.int (x <<< (z &&& 31)) :: st) S k n) : R l G cy y b nL rt d mc ms Q pc lv (.int z :: .int x :: st) S k n := by
  intro p e s m args below meth c H locs ls A ρ L0 ρ0 X hK hA hP hD hS hl hoL hoS hρ hLL
  obtain ⟨hx, hb, hr, hml, hown, hts, hlk, hnm⟩ := id X
  exact lv_ishl hx hb hd (h p e s m args below meth c H locs ls A ρ L0 ρ0 X hK hA hP hD hS hl hoL ⟨trivial, hoS.2.2⟩ hρ hLL)
theorem r_ishr {x z : Int32} (hd : decode b pc = .ok (.ishr, 1)) (h : R l G cy y b nL rt d mc ms Q (pc + 1) lv (.int (x >>> (z &&& 31)) :: st) S k n) : R l G cy y b nL rt d mc ms Q pc lv (.int z :: .int x :: st) S k n := by
  intro p e s m args below meth c H locs ls A ρ L0 ρ0 X hK hA hP hD hS hl hoL hoS hρ hLL
  obtain ⟨hx, hb, hr, hml, hown, hts, hlk, hnm⟩ := id X
  exact lv_ishr hx hb hd (h p e s m args below meth c H locs ls A ρ L0 ρ0 X hK hA hP hD hS hl hoL ⟨trivial, hoS.2.2⟩ hρ hLL)
theorem r_idiv {x z : Int32} (hd : decode b pc = .ok (.idiv, 1)) (hne : ¬ z = 0) (h : R l G cy y b nL rt d mc ms Q (pc + 1) lv (.int (x / z) :: st) S k n) : R l G cy y b nL rt d mc ms Q pc lv (.int z :: .int x :: st) S k n := by
  intro p e s m args below meth c H locs ls A ρ L0 ρ0 X hK hA hP hD hS hl hoL hoS hρ hLL
  obtain ⟨hx, hb, hr, hml, hown, hts, hlk, hnm⟩ := id X
  exact lv_idiv hx hb hd hne (h p e s m args below meth c H locs ls A ρ L0 ρ0 X hK hA hP hD hS hl hoL ⟨trivial, hoS.2.2⟩ hρ hLL)
theorem r_irem {x z : Int32} (hd : decode b pc = .ok (.irem, 1)) (hne : ¬ z = 0) (h : R l G cy y b nL rt d mc ms Q (pc + 1) lv (.int (x - x / z * z) :: st) S k n) : R l G cy y b nL rt d mc ms Q pc lv (.int z :: .int x :: st) S k n := by
  intro p e s m args below meth c H locs ls A ρ L0 ρ0 X hK hA hP hD hS hl hoL hoS hρ hLL
  obtain ⟨hx, hb, hr, hml, hown, hts, hlk, hnm⟩ := id X
  exact lv_irem hx hb hd hne (h p e s m args below meth c H locs ls A ρ L0 ρ0 X hK hA hP hD hS hl hoL ⟨trivial, hoS.2.2⟩ hρ hLL)
theorem r_iushr {x z : Int32} (hd : decode b pc = .ok (.iushr, 1)) (h : R l G cy y b nL rt d mc ms Q (pc + 1) lv (.int (x.toUInt32 >>> (z.toUInt32 &&& Int32.toUInt32 31)).toInt32 :: st) S k n) : R l G cy y b nL rt d mc ms Q pc lv (.int z :: .int x :: st) S k n := by
  intro p e s m args below meth c H locs ls A ρ L0 ρ0 X hK hA hP hD hS hl hoL hoS hρ hLL
  obtain ⟨hx, hb, hr, hml, hown, hts, hlk, hnm⟩ := id X
  exact lv_iushr hx hb hd rfl (h p e s m args below meth c H locs ls A ρ L0 ρ0 X hK hA hP hD hS hl hoL ⟨trivial, hoS.2.2⟩ hρ hLL)
theorem r_ladd {x z : Int64} (hd : decode b pc = .ok (.ladd, 1)) (h : R l G cy y b nL rt d mc ms Q (pc + 1) lv (.long (x + z) :: st) S k n) : R l G cy y b nL rt d mc ms Q pc lv (.long z :: .long x :: st) S k n := by
  intro p e s m args below meth c H locs ls A ρ L0 ρ0 X hK hA hP hD hS hl hoL hoS hρ hLL
  obtain ⟨hx, hb, hr, hml, hown, hts, hlk, hnm⟩ := id X
  exact lv_ladd hx hb hd (h p e s m args below meth c H locs ls A ρ L0 ρ0 X hK hA hP hD hS hl hoL ⟨trivial, hoS.2.2⟩ hρ hLL)
theorem r_lsub {x z : Int64} (hd : decode b pc = .ok (.lsub, 1)) (h : R l G cy y b nL rt d mc ms Q (pc + 1) lv (.long (x - z) :: st) S k n) : R l G cy y b nL rt d mc ms Q pc lv (.long z :: .long x :: st) S k n := by
  intro p e s m args below meth c H locs ls A ρ L0 ρ0 X hK hA hP hD hS hl hoL hoS hρ hLL
  obtain ⟨hx, hb, hr, hml, hown, hts, hlk, hnm⟩ := id X
  exact lv_lsub hx hb hd (h p e s m args below meth c H locs ls A ρ L0 ρ0 X hK hA hP hD hS hl hoL ⟨trivial, hoS.2.2⟩ hρ hLL)
theorem r_lmul {x z : Int64} (hd : decode b pc = .ok (.lmul, 1)) (h : R l G cy y b nL rt d mc ms Q (pc + 1) lv (.long (x * z) :: st) S k n) : R l G cy y b nL rt d mc ms Q pc lv (.long z :: .long x :: st) S k n := by
  intro p e s m args below meth c H locs ls A ρ L0 ρ0 X hK hA hP hD hS hl hoL hoS hρ hLL
  obtain ⟨hx, hb, hr, hml, hown, hts, hlk, hnm⟩ := id X
  exact lv_lmul hx hb hd (h p e s m args below meth c H locs ls A ρ L0 ρ0 X hK hA hP hD hS hl hoL ⟨trivial, hoS.2.2⟩ hρ hLL)
theorem r_ldiv {x z : Int64} (hd : decode b pc = .ok (.ldiv, 1)) (hne : ¬ z = 0) (h : R l G cy y b nL rt d mc ms Q (pc + 1) lv (.long (x / z) :: st) S k n) : R l G cy y b nL rt d mc ms Q pc lv (.long z :: .long x :: st) S k n := by
  intro p e s m args below meth c H locs ls A ρ L0 ρ0 X hK hA hP hD hS hl hoL hoS hρ hLL
  obtain ⟨hx, hb, hr, hml, hown, hts, hlk, hnm⟩ := id X
  exact lv_ldiv hx hb hd hne (h p e s m args below meth c H locs ls A ρ L0 ρ0 X hK hA hP hD hS hl hoL ⟨trivial, hoS.2.2⟩ hρ hLL)
theorem r_lrem {x z : Int64} (hd : decode b pc = .ok (.lrem, 1)) (hne : ¬ z = 0) (h : R l G cy y b nL rt d mc ms Q (pc + 1) lv (.long (x - x / z * z) :: st) S k n) : R l G cy y b nL rt d mc ms Q pc lv (.long z :: .long x :: st) S k n := by
  intro p e s m args below meth c H locs ls A ρ L0 ρ0 X hK hA hP hD hS hl hoL hoS hρ hLL
  obtain ⟨hx, hb, hr, hml, hown, hts, hlk, hnm⟩ := id X
  exact lv_lrem hx hb hd hne (h p e s m args below meth c H locs ls A ρ L0 ρ0 X hK hA hP hD hS hl hoL ⟨trivial, hoS.2.2⟩ hρ hLL)
theorem r_lcmp {x z : Int64} (hd : decode b pc = .ok (.lcmp, 1)) (h : R l G cy y b nL rt d mc ms Q (pc + 1) lv (.int (lg_cmp x z) :: st) S k n) : R l G cy y b nL rt d mc ms Q pc lv (.long z :: .long x :: st) S k n := by
  intro p e s m args below meth c H locs ls A ρ L0 ρ0 X hK hA hP hD hS hl hoL hoS hρ hLL
  obtain ⟨hx, hb, hr, hml, hown, hts, hlk, hnm⟩ := id X
  exact W.lcmp hx hb hd (h p e s m args below meth c H locs ls A ρ L0 ρ0 X hK hA hP hD hS hl hoL ⟨trivial, hoS.2.2⟩ hρ hLL)
theorem r_i2l {x : Int32} (hd : decode b pc = .ok (.i2l, 1)) (h : R l G cy y b nL rt d mc ms Q (pc + 1) lv (.long x.toInt64 :: st) S k n) : R l G cy y b nL rt d mc ms Q pc lv (.int x :: st) S k n := by
  intro p e s m args below meth c H locs ls A ρ L0 ρ0 X hK hA hP hD hS hl hoL hoS hρ hLL
  obtain ⟨hx, hb, hr, hml, hown, hts, hlk, hnm⟩ := id X
  exact lv_i2l hx hb hd rfl (h p e s m args below meth c H locs ls A ρ L0 ρ0 X hK hA hP hD hS hl hoL ⟨trivial, hoS.2⟩ hρ hLL)
theorem r_l2i {x : Int64} (hd : decode b pc = .ok (.l2i, 1)) (h : R l G cy y b nL rt d mc ms Q (pc + 1) lv (.int x.toInt32 :: st) S k n) : R l G cy y b nL rt d mc ms Q pc lv (.long x :: st) S k n := by
  intro p e s m args below meth c H locs ls A ρ L0 ρ0 X hK hA hP hD hS hl hoL hoS hρ hLL
  obtain ⟨hx, hb, hr, hml, hown, hts, hlk, hnm⟩ := id X
  exact lv_l2i hx hb hd rfl (h p e s m args below meth c H locs ls A ρ L0 ρ0 X hK hA hP hD hS hl hoL ⟨trivial, hoS.2⟩ hρ hLL)
theorem r_dup {a1 : Value} (hd : decode b pc = .ok (.dup, 1)) (hc : a1.category = 1) (h : R l G cy y b nL rt d mc ms Q (pc + 1) lv (a1 :: a1 :: st) S k n) : R l G cy y b nL rt d mc ms Q pc lv (a1 :: st) S k n := by
  intro p e s m args below meth c H locs ls A ρ L0 ρ0 X hK hA hP hD hS hl hoL hoS hρ hLL
  obtain ⟨hx, hb, hr, hml, hown, hts, hlk, hnm⟩ := id X
  exact lv_dup hx hb hd ((rn_cat ρ a1).trans hc) (h p e s m args below meth c H locs ls A ρ L0 ρ0 X hK hA hP hD hS hl hoL ⟨hoS.1, hoS⟩ hρ hLL)
theorem r_pop {a1 : Value} (hd : decode b pc = .ok (.pop, 1)) (hc : a1.category = 1) (h : R l G cy y b nL rt d mc ms Q (pc + 1) lv st S k n) : R l G cy y b nL rt d mc ms Q pc lv (a1 :: st) S k n := by
  intro p e s m args below meth c H locs ls A ρ L0 ρ0 X hK hA hP hD hS hl hoL hoS hρ hLL
  obtain ⟨hx, hb, hr, hml, hown, hts, hlk, hnm⟩ := id X
  exact lv_pop hx hb hd ((rn_cat ρ a1).trans hc) (h p e s m args below meth c H locs ls A ρ L0 ρ0 X hK hA hP hD hS hl hoL hoS.2 hρ hLL)
theorem r_dup2 {a1 a2 : Value} (hd : decode b pc = .ok (.dup2, 1)) (hc : a1.category = 1) (hc2 : a2.category = 1) (h : R l G cy y b nL rt d mc ms Q (pc + 1) lv (a1 :: a2 :: a1 :: a2 :: st) S k n) : R l G cy y b nL rt d mc ms Q pc lv (a1 :: a2 :: st) S k n := by
  intro p e s m args below meth c H locs ls A ρ L0 ρ0 X hK hA hP hD hS hl hoL hoS hρ hLL
  obtain ⟨hx, hb, hr, hml, hown, hts, hlk, hnm⟩ := id X
  exact lv_dup2_11 hx hb hd ((rn_cat ρ a1).trans hc) ((rn_cat ρ a2).trans hc2) (h p e s m args below meth c H locs ls A ρ L0 ρ0 X hK hA hP hD hS hl hoL ⟨hoS.1, hoS.2.1, hoS⟩ hρ hLL)
theorem r_dup_x1 {a1 a2 : Value} (hd : decode b pc = .ok (.dup_x1, 1)) (hc : a1.category = 1) (hc2 : a2.category = 1) (h : R l G cy y b nL rt d mc ms Q (pc + 1) lv (a1 :: a2 :: a1 :: st) S k n) : R l G cy y b nL rt d mc ms Q pc lv (a1 :: a2 :: st) S k n := by
  intro p e s m args below meth c H locs ls A ρ L0 ρ0 X hK hA hP hD hS hl hoL hoS hρ hLL
  obtain ⟨hx, hb, hr, hml, hown, hts, hlk, hnm⟩ := id X
  exact lv_dup_x1 hx hb hd ((rn_cat ρ a1).trans hc) ((rn_cat ρ a2).trans hc2) (h p e s m args below meth c H locs ls A ρ L0 ρ0 X hK hA hP hD hS hl hoL ⟨hoS.1, hoS.2.1, hoS.1, hoS.2.2⟩ hρ hLL)
theorem r_if_eq {x : Int32} {off : Int} (t : Nat) (hd : decode b pc = .ok (.ifCond .eq off, 3)) (ht : (pc : Int) + off = (t : Int)) (h1 : x = 0 → R l G cy y b nL rt d mc ms Q t lv st S k n) (h2 : ¬ x = 0 → R l G cy y b nL rt d mc ms Q (pc + 3) lv st S k n) : R l G cy y b nL rt d mc ms Q pc lv (.int x :: st) S k n := by
  intro p e s m args below meth c H locs ls A ρ L0 ρ0 X hK hA hP hD hS hl hoL hoS hρ hLL
  obtain ⟨hx, hb, hr, hml, hown, hts, hlk, hnm⟩ := id X
  exact lv_if_eq hx hb hd ht (fun q => h1 q p e s m args below meth c H locs ls A ρ L0 ρ0 X hK hA hP hD hS hl hoL hoS.2 hρ hLL) (fun q => h2 q p e s m args below meth c H locs ls A ρ L0 ρ0 X hK hA hP hD hS hl hoL hoS.2 hρ hLL)
theorem r_icmp_eq {x z : Int32} {off : Int} (t : Nat) (hd : decode b pc = .ok (.if_icmp .eq off, 3)) (ht : (pc : Int) + off = (t : Int)) (h1 : x = z → R l G cy y b nL rt d mc ms Q t lv st S k n) (h2 : ¬ x = z → R l G cy y b nL rt d mc ms Q (pc + 3) lv st S k n) : R l G cy y b nL rt d mc ms Q pc lv (.int z :: .int x :: st) S k n := by
  intro p e s m args below meth c H locs ls A ρ L0 ρ0 X hK hA hP hD hS hl hoL hoS hρ hLL
  obtain ⟨hx, hb, hr, hml, hown, hts, hlk, hnm⟩ := id X
  exact lv_icmp_eq hx hb hd ht (fun q => h1 q p e s m args below meth c H locs ls A ρ L0 ρ0 X hK hA hP hD hS hl hoL hoS.2.2 hρ hLL) (fun q => h2 q p e s m args below meth c H locs ls A ρ L0 ρ0 X hK hA hP hD hS hl hoL hoS.2.2 hρ hLL)
theorem r_if_ne {x : Int32} {off : Int} (t : Nat) (hd : decode b pc = .ok (.ifCond .ne off, 3)) (ht : (pc : Int) + off = (t : Int)) (h1 : ¬ x = 0 → R l G cy y b nL rt d mc ms Q t lv st S k n) (h2 : x = 0 → R l G cy y b nL rt d mc ms Q (pc + 3) lv st S k n) : R l G cy y b nL rt d mc ms Q pc lv (.int x :: st) S k n := by
  intro p e s m args below meth c H locs ls A ρ L0 ρ0 X hK hA hP hD hS hl hoL hoS hρ hLL
  obtain ⟨hx, hb, hr, hml, hown, hts, hlk, hnm⟩ := id X
  exact lv_if_ne hx hb hd ht (fun q => h1 q p e s m args below meth c H locs ls A ρ L0 ρ0 X hK hA hP hD hS hl hoL hoS.2 hρ hLL) (fun q => h2 q p e s m args below meth c H locs ls A ρ L0 ρ0 X hK hA hP hD hS hl hoL hoS.2 hρ hLL)
theorem r_icmp_ne {x z : Int32} {off : Int} (t : Nat) (hd : decode b pc = .ok (.if_icmp .ne off, 3)) (ht : (pc : Int) + off = (t : Int)) (h1 : ¬ x = z → R l G cy y b nL rt d mc ms Q t lv st S k n) (h2 : x = z → R l G cy y b nL rt d mc ms Q (pc + 3) lv st S k n) : R l G cy y b nL rt d mc ms Q pc lv (.int z :: .int x :: st) S k n := by
  intro p e s m args below meth c H locs ls A ρ L0 ρ0 X hK hA hP hD hS hl hoL hoS hρ hLL
  obtain ⟨hx, hb, hr, hml, hown, hts, hlk, hnm⟩ := id X
  exact lv_icmp_ne hx hb hd ht (fun q => h1 q p e s m args below meth c H locs ls A ρ L0 ρ0 X hK hA hP hD hS hl hoL hoS.2.2 hρ hLL) (fun q => h2 q p e s m args below meth c H locs ls A ρ L0 ρ0 X hK hA hP hD hS hl hoL hoS.2.2 hρ hLL)
theorem r_if_lt {x : Int32} {off : Int} (t : Nat) (hd : decode b pc = .ok (.ifCond .lt off, 3)) (ht : (pc : Int) + off = (t : Int)) (h1 : x < 0 → R l G cy y b nL rt d mc ms Q t lv st S k n) (h2 : ¬ x < 0 → R l G cy y b nL rt d mc ms Q (pc + 3) lv st S k n) : R l G cy y b nL rt d mc ms Q pc lv (.int x :: st) S k n := by
  intro p e s m args below meth c H locs ls A ρ L0 ρ0 X hK hA hP hD hS hl hoL hoS hρ hLL
  obtain ⟨hx, hb, hr, hml, hown, hts, hlk, hnm⟩ := id X
  exact lv_if_lt hx hb hd ht (fun q => h1 q p e s m args below meth c H locs ls A ρ L0 ρ0 X hK hA hP hD hS hl hoL hoS.2 hρ hLL) (fun q => h2 q p e s m args below meth c H locs ls A ρ L0 ρ0 X hK hA hP hD hS hl hoL hoS.2 hρ hLL)
theorem r_icmp_lt {x z : Int32} {off : Int} (t : Nat) (hd : decode b pc = .ok (.if_icmp .lt off, 3)) (ht : (pc : Int) + off = (t : Int)) (h1 : x < z → R l G cy y b nL rt d mc ms Q t lv st S k n) (h2 : ¬ x < z → R l G cy y b nL rt d mc ms Q (pc + 3) lv st S k n) : R l G cy y b nL rt d mc ms Q pc lv (.int z :: .int x :: st) S k n := by
  intro p e s m args below meth c H locs ls A ρ L0 ρ0 X hK hA hP hD hS hl hoL hoS hρ hLL
  obtain ⟨hx, hb, hr, hml, hown, hts, hlk, hnm⟩ := id X
  exact lv_icmp_lt hx hb hd ht (fun q => h1 q p e s m args below meth c H locs ls A ρ L0 ρ0 X hK hA hP hD hS hl hoL hoS.2.2 hρ hLL) (fun q => h2 q p e s m args below meth c H locs ls A ρ L0 ρ0 X hK hA hP hD hS hl hoL hoS.2.2 hρ hLL)
theorem r_if_ge {x : Int32} {off : Int} (t : Nat) (hd : decode b pc = .ok (.ifCond .ge off, 3)) (ht : (pc : Int) + off = (t : Int)) (h1 : 0 ≤ x → R l G cy y b nL rt d mc ms Q t lv st S k n) (h2 : ¬ 0 ≤ x → R l G cy y b nL rt d mc ms Q (pc + 3) lv st S k n) : R l G cy y b nL rt d mc ms Q pc lv (.int x :: st) S k n := by
  intro p e s m args below meth c H locs ls A ρ L0 ρ0 X hK hA hP hD hS hl hoL hoS hρ hLL
  obtain ⟨hx, hb, hr, hml, hown, hts, hlk, hnm⟩ := id X
  exact lv_if_ge hx hb hd ht (fun q => h1 q p e s m args below meth c H locs ls A ρ L0 ρ0 X hK hA hP hD hS hl hoL hoS.2 hρ hLL) (fun q => h2 q p e s m args below meth c H locs ls A ρ L0 ρ0 X hK hA hP hD hS hl hoL hoS.2 hρ hLL)
theorem r_icmp_ge {x z : Int32} {off : Int} (t : Nat) (hd : decode b pc = .ok (.if_icmp .ge off, 3)) (ht : (pc : Int) + off = (t : Int)) (h1 : z ≤ x → R l G cy y b nL rt d mc ms Q t lv st S k n) (h2 : ¬ z ≤ x → R l G cy y b nL rt d mc ms Q (pc + 3) lv st S k n) : R l G cy y b nL rt d mc ms Q pc lv (.int z :: .int x :: st) S k n := by
  intro p e s m args below meth c H locs ls A ρ L0 ρ0 X hK hA hP hD hS hl hoL hoS hρ hLL
  obtain ⟨hx, hb, hr, hml, hown, hts, hlk, hnm⟩ := id X
  exact lv_icmp_ge hx hb hd ht (fun q => h1 q p e s m args below meth c H locs ls A ρ L0 ρ0 X hK hA hP hD hS hl hoL hoS.2.2 hρ hLL) (fun q => h2 q p e s m args below meth c H locs ls A ρ L0 ρ0 X hK hA hP hD hS hl hoL hoS.2.2 hρ hLL)
theorem r_if_gt {x : Int32} {off : Int} (t : Nat) (hd : decode b pc = .ok (.ifCond .gt off, 3)) (ht : (pc : Int) + off = (t : Int)) (h1 : 0 < x → R l G cy y b nL rt d mc ms Q t lv st S k n) (h2 : ¬ 0 < x → R l G cy y b nL rt d mc ms Q (pc + 3) lv st S k n) : R l G cy y b nL rt d mc ms Q pc lv (.int x :: st) S k n := by
  intro p e s m args below meth c H locs ls A ρ L0 ρ0 X hK hA hP hD hS hl hoL hoS hρ hLL
  obtain ⟨hx, hb, hr, hml, hown, hts, hlk, hnm⟩ := id X
  exact lv_if_gt hx hb hd ht (fun q => h1 q p e s m args below meth c H locs ls A ρ L0 ρ0 X hK hA hP hD hS hl hoL hoS.2 hρ hLL) (fun q => h2 q p e s m args below meth c H locs ls A ρ L0 ρ0 X hK hA hP hD hS hl hoL hoS.2 hρ hLL)
theorem r_icmp_gt {x z : Int32} {off : Int} (t : Nat) (hd : decode b pc = .ok (.if_icmp .gt off, 3)) (ht : (pc : Int) + off = (t : Int)) (h1 : z < x → R l G cy y b nL rt d mc ms Q t lv st S k n) (h2 : ¬ z < x → R l G cy y b nL rt d mc ms Q (pc + 3) lv st S k n) : R l G cy y b nL rt d mc ms Q pc lv (.int z :: .int x :: st) S k n := by
  intro p e s m args below meth c H locs ls A ρ L0 ρ0 X hK hA hP hD hS hl hoL hoS hρ hLL
  obtain ⟨hx, hb, hr, hml, hown, hts, hlk, hnm⟩ := id X
  exact lv_icmp_gt hx hb hd ht (fun q => h1 q p e s m args below meth c H locs ls A ρ L0 ρ0 X hK hA hP hD hS hl hoL hoS.2.2 hρ hLL) (fun q => h2 q p e s m args below meth c H locs ls A ρ L0 ρ0 X hK hA hP hD hS hl hoL hoS.2.2 hρ hLL)
theorem r_if_le {x : Int32} {off : Int} (t : Nat) (hd : decode b pc = .ok (.ifCond .le off, 3)) (ht : (pc : Int) + off = (t : Int)) (h1 : x ≤ 0 → R l G cy y b nL rt d mc ms Q t lv st S k n) (h2 : ¬ x ≤ 0 → R l G cy y b nL rt d mc ms Q (pc + 3) lv st S k n) : R l G cy y b nL rt d mc ms Q pc lv (.int x :: st) S k n := by
  intro p e s m args below meth c H locs ls A ρ L0 ρ0 X hK hA hP hD hS hl hoL hoS hρ hLL
  obtain ⟨hx, hb, hr, hml, hown, hts, hlk, hnm⟩ := id X
  exact lv_if_le hx hb hd ht (fun q => h1 q p e s m args below meth c H locs ls A ρ L0 ρ0 X hK hA hP hD hS hl hoL hoS.2 hρ hLL) (fun q => h2 q p e s m args below meth c H locs ls A ρ L0 ρ0 X hK hA hP hD hS hl hoL hoS.2 hρ hLL)
theorem r_icmp_le {x z : Int32} {off : Int} (t : Nat) (hd : decode b pc = .ok (.if_icmp .le off, 3)) (ht : (pc : Int) + off = (t : Int)) (h1 : x ≤ z → R l G cy y b nL rt d mc ms Q t lv st S k n) (h2 : ¬ x ≤ z → R l G cy y b nL rt d mc ms Q (pc + 3) lv st S k n) : R l G cy y b nL rt d mc ms Q pc lv (.int z :: .int x :: st) S k n := by
  intro p e s m args below meth c H locs ls A ρ L0 ρ0 X hK hA hP hD hS hl hoL hoS hρ hLL
  obtain ⟨hx, hb, hr, hml, hown, hts, hlk, hnm⟩ := id X
  exact lv_icmp_le hx hb hd ht (fun q => h1 q p e s m args below meth c H locs ls A ρ L0 ρ0 X hK hA hP hD hS hl hoL hoS.2.2 hρ hLL) (fun q => h2 q p e s m args below meth c H locs ls A ρ L0 ρ0 X hK hA hP hD hS hl hoL hoS.2.2 hρ hLL)
theorem r_goto {off : Int} (t : Nat) (hd : decode b pc = .ok (.goto off, 3)) (ht : (pc : Int) + off = (t : Int)) (h : R l G cy y b nL rt d mc ms Q t lv st S k n) : R l G cy y b nL rt d mc ms Q pc lv st S k n := by
  intro p e s m args below meth c H locs ls A ρ L0 ρ0 X hK hA hP hD hS hl hoL hoS hρ hLL
  obtain ⟨hx, hb, hr, hml, hown, hts, hlk, hnm⟩ := id X
  exact lv_goto hx hb hd ht (h p e s m args below meth c H locs ls A ρ L0 ρ0 X hK hA hP hD hS hl hoL hoS hρ hLL)
theorem r_ifnull {x : Nat} {off : Int} (hd : decode b pc = .ok (.ifnull off, 3)) (h : R l G cy y b nL rt d mc ms Q (pc + 3) lv st S k n) : R l G cy y b nL rt d mc ms Q pc lv (.ref x :: st) S k n := by
  intro p e s m args below meth c H locs ls A ρ L0 ρ0 X hK hA hP hD hS hl hoL hoS hρ hLL
  obtain ⟨hx, hb, hr, hml, hown, hts, hlk, hnm⟩ := id X
  exact lv_ifnull hx hb hd (h p e s m args below meth c H locs ls A ρ L0 ρ0 X hK hA hP hD hS hl hoL hoS.2 hρ hLL)
theorem r_ifnullN {off : Int} (t : Nat) (hd : decode b pc = .ok (.ifnull off, 3)) (ht : (pc : Int) + off = (t : Int)) (h : R l G cy y b nL rt d mc ms Q t lv st S k n) : R l G cy y b nL rt d mc ms Q pc lv (.null :: st) S k n := by
  intro p e s m args below meth c H locs ls A ρ L0 ρ0 X hK hA hP hD hS hl hoL hoS hρ hLL
  obtain ⟨hx, hb, hr, hml, hown, hts, hlk, hnm⟩ := id X
  exact lv_ifnullN hx hb hd ht (h p e s m args below meth c H locs ls A ρ L0 ρ0 X hK hA hP hD hS hl hoL hoS.2 hρ hLL)
theorem r_ifnonnull {x : Nat} {off : Int} (t : Nat) (hd : decode b pc = .ok (.ifnonnull off, 3)) (ht : (pc : Int) + off = (t : Int)) (h : R l G cy y b nL rt d mc ms Q t lv st S k n) : R l G cy y b nL rt d mc ms Q pc lv (.ref x :: st) S k n := by
  intro p e s m args below meth c H locs ls A ρ L0 ρ0 X hK hA hP hD hS hl hoL hoS hρ hLL
  obtain ⟨hx, hb, hr, hml, hown, hts, hlk, hnm⟩ := id X
  exact lv_ifnonnull hx hb hd ht (h p e s m args below meth c H locs ls A ρ L0 ρ0 X hK hA hP hD hS hl hoL hoS.2 hρ hLL)
theorem r_ifnonnullN {off : Int} (hd : decode b pc = .ok (.ifnonnull off, 3)) (h : R l G cy y b nL rt d mc ms Q (pc + 3) lv st S k n) : R l G cy y b nL rt d mc ms Q pc lv (.null :: st) S k n := by
  intro p e s m args below meth c H locs ls A ρ L0 ρ0 X hK hA hP hD hS hl hoL hoS hρ hLL
  obtain ⟨hx, hb, hr, hml, hown, hts, hlk, hnm⟩ := id X
  exact lv_ifnonnullN hx hb hd (h p e s m args below meth c H locs ls A ρ L0 ρ0 X hK hA hP hD hS hl hoL hoS.2 hρ hLL)
theorem r_tableOut {dflt lo hi : Int} {offs : Array Int} {len : Nat} {x : Int32} (t : Nat) (hd : decode b pc = .ok (.tableswitch dflt lo hi offs, len)) (hq : x.toInt < lo ∨ hi < x.toInt) (ht : (pc : Int) + dflt = (t : Int)) (h : R l G cy y b nL rt d mc ms Q t lv st S k n) : R l G cy y b nL rt d mc ms Q pc lv (.int x :: st) S k n := by
  intro p e s m args below meth c H locs ls A ρ L0 ρ0 X hK hA hP hD hS hl hoL hoS hρ hLL
  obtain ⟨hx, hb, hr, hml, hown, hts, hlk, hnm⟩ := id X
  exact lv_tableOut hx hb hd hq ht (h p e s m args below meth c H locs ls A ρ L0 ρ0 X hK hA hP hD hS hl hoL hoS.2 hρ hLL)
theorem r_tableIn {dflt lo hi : Int} {offs : Array Int} {len : Nat} {x : Int32} {off : Int} (t : Nat) (hd : decode b pc = .ok (.tableswitch dflt lo hi offs, len)) (q1 : ¬ x.toInt < lo) (q2 : ¬ hi < x.toInt) (ho : offs[(x.toInt - lo).toNat]? = some off) (ht : (pc : Int) + off = (t : Int)) (h : R l G cy y b nL rt d mc ms Q t lv st S k n) : R l G cy y b nL rt d mc ms Q pc lv (.int x :: st) S k n := by
  intro p e s m args below meth c H locs ls A ρ L0 ρ0 X hK hA hP hD hS hl hoL hoS hρ hLL
  obtain ⟨hx, hb, hr, hml, hown, hts, hlk, hnm⟩ := id X
  exact lv_tableIn hx hb hd q1 q2 ho ht (h p e s m args below meth c H locs ls A ρ L0 ρ0 X hK hA hP hD hS hl hoL hoS.2 hρ hLL)
theorem r_lookup {dflt : Int} {ps : Array (Int × Int)} {len : Nat} {x : Int32} {off : Int} (t : Nat) (hd : decode b pc = .ok (.lookupswitch dflt ps, len)) (hp : (ps.toList.zip (ps.toList.drop 1)).all (fun (a, next) => a.1 < next.1) = true) (ho : Op.lookupswitch.offset ps.toList dflt x.toInt = off) (ht : (pc : Int) + off = (t : Int)) (h : R l G cy y b nL rt d mc ms Q t lv st S k n) : R l G cy y b nL rt d mc ms Q pc lv (.int x :: st) S k n := by
  intro p e s m args below meth c H locs ls A ρ L0 ρ0 X hK hA hP hD hS hl hoL hoS hρ hLL
  obtain ⟨hx, hb, hr, hml, hown, hts, hlk, hnm⟩ := id X
  exact lv_lookup hx hb hd hp ho ht (h p e s m args below meth c H locs ls A ρ L0 ρ0 X hK hA hP hD hS hl hoL hoS.2 hρ hLL)
theorem r_iret {x : Int32} (hd : decode b pc = .ok (.ireturn, 1)) (hrt : rt = some .int) (hk : k ≤ mc) (hn : n ≤ ms) (hq : Q (some (.int x)) S) : R l G cy y b nL rt d mc ms Q pc lv [.int x] S k n := by
  intro p e s m args below meth c H locs ls A ρ L0 ρ0 X hK hA hP hD hS hl hoL hoS hρ hLL
  obtain ⟨hx, hb, hr, hml, hown, hts, hlk, hnm⟩ := id X
  refine W.widen hk hn ?_
  exact W.iret hx hb (hr.trans hrt) (fun t ht hW => ⟨⟨some (.int x), S, ρ, rfl, hq, hρ, hLL, (fun x hx => by cases hx; exact trivial), by rw [ht]; exact hP, hD⟩, hS.F ht⟩) hS.2.2 hd hlk
theorem r_zret {x : Int32} (hd : decode b pc = .ok (.ireturn, 1)) (hrt : rt = some .boolean) (hz : narrow .boolean (.int x) = .int x) (hk : k ≤ mc) (hn : n ≤ ms) (hq : Q (some (.int x)) S) : R l G cy y b nL rt d mc ms Q pc lv [.int x] S k n := by
  intro p e s m args below meth c H locs ls A ρ L0 ρ0 X hK hA hP hD hS hl hoL hoS hρ hLL
  obtain ⟨hx, hb, hr, hml, hown, hts, hlk, hnm⟩ := id X
  refine W.widen hk hn ?_
  exact W.zret hx hb (hr.trans hrt) hz (fun t ht hW => ⟨⟨some (.int x), S, ρ, rfl, hq, hρ, hLL, (fun x hx => by cases hx; exact trivial), by rw [ht]; exact hP, hD⟩, hS.F ht⟩) hS.2.2 hd hlk
theorem r_vret  (hd : decode b pc = .ok (.return_, 1)) (hrt : rt = none) (hk : k ≤ mc) (hn : n ≤ ms) (hq : Q none S) : R l G cy y b nL rt d mc ms Q pc lv [] S k n := by
  intro p e s m args below meth c H locs ls A ρ L0 ρ0 X hK hA hP hD hS hl hoL hoS hρ hLL
  obtain ⟨hx, hb, hr, hml, hown, hts, hlk, hnm⟩ := id X
  refine W.widen hk hn ?_
  exact W.vret hx hb (hr.trans hrt) (fun t ht hW => ⟨⟨none, S, ρ, rfl, hq, hρ, hLL, (fun x hx => by cases hx), by rw [ht]; exact hP, hD⟩, hS.F ht⟩) hS.2.2 hd hlk
theorem r_aret {C : String} {r : Option Nat} (hd : decode b pc = .ok (.areturn, 1)) (hrt : rt = some (.object C)) (hk : k ≤ mc) (hn : n ≤ ms) (hq : Q (some (va_rf r)) S) : R l G cy y b nL rt d mc ms Q pc lv [va_rf r] S k n := by
  intro p e s m args below meth c H locs ls A ρ L0 ρ0 X hK hA hP hD hS hl hoL hoS hρ hLL
  obtain ⟨hx, hb, hr, hml, hown, hts, hlk, hnm⟩ := id X
  refine W.widen hk hn ?_
  rw [show [va_rf r].map (rn ρ) = [va_rf (r.map ρ)] by rw [← rn_rf]; rfl]
  exact W.aret hx hb (hr.trans hrt) (Or.inl ⟨C, rfl⟩) (va_rf_or _) (fun t ht hW => ⟨⟨some (va_rf r), S, ρ, by rw [← rn_rf]; rfl, hq, hρ, hLL, fun x hx => by cases hx; exact hoS.1, by rw [ht]; exact hP, hD⟩, hS.F ht⟩) hS.2.2 hd hlk
-- stores by place
theorem r_ist0 {x0 : Option Value} {r0 : List (Option Value)} {x : Int32} (hd : decode b pc = .ok (.istore_n 0, 1)) (hn : 0 < nL) (h : R l G cy y b nL rt d mc ms Q (pc + 1) (some (.int x) :: r0) st S k n) : R l G cy y b nL rt d mc ms Q pc (x0 :: r0) (.int x :: st) S k n := r_istore_n hd rfl hn (fun a ha => by cases ha) h
theorem r_ast0 {x0 : Option Value} {r0 : List (Option Value)} {x : Nat} (hd : decode b pc = .ok (.astore_n 0, 1)) (hn : 0 < nL) (h : R l G cy y b nL rt d mc ms Q (pc + 1) (some (.ref x) :: r0) st S k n) : R l G cy y b nL rt d mc ms Q pc (x0 :: r0) (.ref x :: st) S k n := r_astore_n hd rfl hn (fun a ha => by cases ha) h
theorem r_ast0N {x0 : Option Value} {r0 : List (Option Value)}  (hd : decode b pc = .ok (.astore_n 0, 1)) (hn : 0 < nL) (h : R l G cy y b nL rt d mc ms Q (pc + 1) (some (.null) :: r0) st S k n) : R l G cy y b nL rt d mc ms Q pc (x0 :: r0) (.null :: st) S k n := r_astore_nN hd rfl hn (fun a ha => by cases ha) h
theorem r_inc0 {x0 : Option Value} {r0 : List (Option Value)} {z : Int} {x v : Int32} (hd : decode b pc = .ok (.iinc 0 z, 3)) (hz : x + Int32.ofInt z = v) (hn : 0 < nL) (h : R l G cy y b nL rt d mc ms Q (pc + 3) (some (.int v) :: r0) st S k n) : R l G cy y b nL rt d mc ms Q pc (some (.int x) :: r0) st S k n := r_iinc hd rfl hz hn (fun a ha => by cases ha) h
theorem r_ist1 {a0 x0 : Option Value} {r0 : List (Option Value)} {x : Int32} (hd : decode b pc = .ok (.istore_n 1, 1)) (hn : 1 < nL) (hp : okp a0 = true) (h : R l G cy y b nL rt d mc ms Q (pc + 1) (a0 :: some (.int x) :: r0) st S k n) : R l G cy y b nL rt d mc ms Q pc (a0 :: x0 :: r0) (.int x :: st) S k n := r_istore_n hd rfl hn (fun a ha => by cases ha; exact hp) h
theorem r_ast1 {a0 x0 : Option Value} {r0 : List (Option Value)} {x : Nat} (hd : decode b pc = .ok (.astore_n 1, 1)) (hn : 1 < nL) (hp : okp a0 = true) (h : R l G cy y b nL rt d mc ms Q (pc + 1) (a0 :: some (.ref x) :: r0) st S k n) : R l G cy y b nL rt d mc ms Q pc (a0 :: x0 :: r0) (.ref x :: st) S k n := r_astore_n hd rfl hn (fun a ha => by cases ha; exact hp) h
theorem r_ast1N {a0 x0 : Option Value} {r0 : List (Option Value)}  (hd : decode b pc = .ok (.astore_n 1, 1)) (hn : 1 < nL) (hp : okp a0 = true) (h : R l G cy y b nL rt d mc ms Q (pc + 1) (a0 :: some (.null) :: r0) st S k n) : R l G cy y b nL rt d mc ms Q pc (a0 :: x0 :: r0) (.null :: st) S k n := r_astore_nN hd rfl hn (fun a ha => by cases ha; exact hp) h
theorem r_inc1 {a0 x0 : Option Value} {r0 : List (Option Value)} {z : Int} {x v : Int32} (hd : decode b pc = .ok (.iinc 1 z, 3)) (hz : x + Int32.ofInt z = v) (hn : 1 < nL) (hp : okp a0 = true) (h : R l G cy y b nL rt d mc ms Q (pc + 3) (a0 :: some (.int v) :: r0) st S k n) : R l G cy y b nL rt d mc ms Q pc (a0 :: some (.int x) :: r0) st S k n := r_iinc hd rfl hz hn (fun a ha => by cases ha; exact hp) h
theorem r_lst1 {a0 x0 x1 : Option Value} {r0 : List (Option Value)} {x : Int64} (hd : decode b pc = .ok (.lstore_n 1, 1)) (hn : 1 + 1 < nL) (hp : okp a0 = true) (h : R l G cy y b nL rt d mc ms Q (pc + 1) (a0 :: some (.long x) :: none :: r0) st S k n) : R l G cy y b nL rt d mc ms Q pc (a0 :: x0 :: x1 :: r0) (.long x :: st) S k n := r_lstore_n hd rfl hn (fun a ha => by cases ha; exact hp) h
theorem r_ist2 {a0 a1 x0 : Option Value} {r0 : List (Option Value)} {x : Int32} (hd : decode b pc = .ok (.istore_n 2, 1)) (hn : 2 < nL) (hp : okp a1 = true) (h : R l G cy y b nL rt d mc ms Q (pc + 1) (a0 :: a1 :: some (.int x) :: r0) st S k n) : R l G cy y b nL rt d mc ms Q pc (a0 :: a1 :: x0 :: r0) (.int x :: st) S k n := r_istore_n hd rfl hn (fun a ha => by cases ha; exact hp) h
theorem r_ast2 {a0 a1 x0 : Option Value} {r0 : List (Option Value)} {x : Nat} (hd : decode b pc = .ok (.astore_n 2, 1)) (hn : 2 < nL) (hp : okp a1 = true) (h : R l G cy y b nL rt d mc ms Q (pc + 1) (a0 :: a1 :: some (.ref x) :: r0) st S k n) : R l G cy y b nL rt d mc ms Q pc (a0 :: a1 :: x0 :: r0) (.ref x :: st) S k n := r_astore_n hd rfl hn (fun a ha => by cases ha; exact hp) h
theorem r_ast2N {a0 a1 x0 : Option Value} {r0 : List (Option Value)}  (hd : decode b pc = .ok (.astore_n 2, 1)) (hn : 2 < nL) (hp : okp a1 = true) (h : R l G cy y b nL rt d mc ms Q (pc + 1) (a0 :: a1 :: some (.null) :: r0) st S k n) : R l G cy y b nL rt d mc ms Q pc (a0 :: a1 :: x0 :: r0) (.null :: st) S k n := r_astore_nN hd rfl hn (fun a ha => by cases ha; exact hp) h
theorem r_inc2 {a0 a1 x0 : Option Value} {r0 : List (Option Value)} {z : Int} {x v : Int32} (hd : decode b pc = .ok (.iinc 2 z, 3)) (hz : x + Int32.ofInt z = v) (hn : 2 < nL) (hp : okp a1 = true) (h : R l G cy y b nL rt d mc ms Q (pc + 3) (a0 :: a1 :: some (.int v) :: r0) st S k n) : R l G cy y b nL rt d mc ms Q pc (a0 :: a1 :: some (.int x) :: r0) st S k n := r_iinc hd rfl hz hn (fun a ha => by cases ha; exact hp) h
theorem r_lst2 {a0 a1 x0 x1 : Option Value} {r0 : List (Option Value)} {x : Int64} (hd : decode b pc = .ok (.lstore_n 2, 1)) (hn : 2 + 1 < nL) (hp : okp a1 = true) (h : R l G cy y b nL rt d mc ms Q (pc + 1) (a0 :: a1 :: some (.long x) :: none :: r0) st S k n) : R l G cy y b nL rt d mc ms Q pc (a0 :: a1 :: x0 :: x1 :: r0) (.long x :: st) S k n := r_lstore_n hd rfl hn (fun a ha => by cases ha; exact hp) h
theorem r_ist3 {a0 a1 a2 x0 : Option Value} {r0 : List (Option Value)} {x : Int32} (hd : decode b pc = .ok (.istore_n 3, 1)) (hn : 3 < nL) (hp : okp a2 = true) (h : R l G cy y b nL rt d mc ms Q (pc + 1) (a0 :: a1 :: a2 :: some (.int x) :: r0) st S k n) : R l G cy y b nL rt d mc ms Q pc (a0 :: a1 :: a2 :: x0 :: r0) (.int x :: st) S k n := r_istore_n hd rfl hn (fun a ha => by cases ha; exact hp) h
theorem r_ast3 {a0 a1 a2 x0 : Option Value} {r0 : List (Option Value)} {x : Nat} (hd : decode b pc = .ok (.astore_n 3, 1)) (hn : 3 < nL) (hp : okp a2 = true) (h : R l G cy y b nL rt d mc ms Q (pc + 1) (a0 :: a1 :: a2 :: some (.ref x) :: r0) st S k n) : R l G cy y b nL rt d mc ms Q pc (a0 :: a1 :: a2 :: x0 :: r0) (.ref x :: st) S k n := r_astore_n hd rfl hn (fun a ha => by cases ha; exact hp) h
theorem r_ast3N {a0 a1 a2 x0 : Option Value} {r0 : List (Option Value)}  (hd : decode b pc = .ok (.astore_n 3, 1)) (hn : 3 < nL) (hp : okp a2 = true) (h : R l G cy y b nL rt d mc ms Q (pc + 1) (a0 :: a1 :: a2 :: some (.null) :: r0) st S k n) : R l G cy y b nL rt d mc ms Q pc (a0 :: a1 :: a2 :: x0 :: r0) (.null :: st) S k n := r_astore_nN hd rfl hn (fun a ha => by cases ha; exact hp) h
theorem r_inc3 {a0 a1 a2 x0 : Option Value} {r0 : List (Option Value)} {z : Int} {x v : Int32} (hd : decode b pc = .ok (.iinc 3 z, 3)) (hz : x + Int32.ofInt z = v) (hn : 3 < nL) (hp : okp a2 = true) (h : R l G cy y b nL rt d mc ms Q (pc + 3) (a0 :: a1 :: a2 :: some (.int v) :: r0) st S k n) : R l G cy y b nL rt d mc ms Q pc (a0 :: a1 :: a2 :: some (.int x) :: r0) st S k n := r_iinc hd rfl hz hn (fun a ha => by cases ha; exact hp) h
theorem r_lst3 {a0 a1 a2 x0 x1 : Option Value} {r0 : List (Option Value)} {x : Int64} (hd : decode b pc = .ok (.lstore_n 3, 1)) (hn : 3 + 1 < nL) (hp : okp a2 = true) (h : R l G cy y b nL rt d mc ms Q (pc + 1) (a0 :: a1 :: a2 :: some (.long x) :: none :: r0) st S k n) : R l G cy y b nL rt d mc ms Q pc (a0 :: a1 :: a2 :: x0 :: x1 :: r0) (.long x :: st) S k n := r_lstore_n hd rfl hn (fun a ha => by cases ha; exact hp) h
theorem r_ist4 {a0 a1 a2 a3 x0 : Option Value} {r0 : List (Option Value)} {x : Int32} (hd : decode b pc = .ok (.istore 4, 2)) (hn : 4 < nL) (hp : okp a3 = true) (h : R l G cy y b nL rt d mc ms Q (pc + 2) (a0 :: a1 :: a2 :: a3 :: some (.int x) :: r0) st S k n) : R l G cy y b nL rt d mc ms Q pc (a0 :: a1 :: a2 :: a3 :: x0 :: r0) (.int x :: st) S k n := r_istore hd hn (fun a ha => by cases ha; exact hp) h
theorem r_ast4 {a0 a1 a2 a3 x0 : Option Value} {r0 : List (Option Value)} {x : Nat} (hd : decode b pc = .ok (.astore 4, 2)) (hn : 4 < nL) (hp : okp a3 = true) (h : R l G cy y b nL rt d mc ms Q (pc + 2) (a0 :: a1 :: a2 :: a3 :: some (.ref x) :: r0) st S k n) : R l G cy y b nL rt d mc ms Q pc (a0 :: a1 :: a2 :: a3 :: x0 :: r0) (.ref x :: st) S k n := r_astore hd hn (fun a ha => by cases ha; exact hp) h
theorem r_ast4N {a0 a1 a2 a3 x0 : Option Value} {r0 : List (Option Value)}  (hd : decode b pc = .ok (.astore 4, 2)) (hn : 4 < nL) (hp : okp a3 = true) (h : R l G cy y b nL rt d mc ms Q (pc + 2) (a0 :: a1 :: a2 :: a3 :: some (.null) :: r0) st S k n) : R l G cy y b nL rt d mc ms Q pc (a0 :: a1 :: a2 :: a3 :: x0 :: r0) (.null :: st) S k n := r_astoreN hd hn (fun a ha => by cases ha; exact hp) h
theorem r_inc4 {a0 a1 a2 a3 x0 : Option Value} {r0 : List (Option Value)} {z : Int} {x v : Int32} (hd : decode b pc = .ok (.iinc 4 z, 3)) (hz : x + Int32.ofInt z = v) (hn : 4 < nL) (hp : okp a3 = true) (h : R l G cy y b nL rt d mc ms Q (pc + 3) (a0 :: a1 :: a2 :: a3 :: some (.int v) :: r0) st S k n) : R l G cy y b nL rt d mc ms Q pc (a0 :: a1 :: a2 :: a3 :: some (.int x) :: r0) st S k n := r_iinc hd rfl hz hn (fun a ha => by cases ha; exact hp) h
theorem r_lst4 {a0 a1 a2 a3 x0 x1 : Option Value} {r0 : List (Option Value)} {x : Int64} (hd : decode b pc = .ok (.lstore 4, 2)) (hn : 4 + 1 < nL) (hp : okp a3 = true) (h : R l G cy y b nL rt d mc ms Q (pc + 2) (a0 :: a1 :: a2 :: a3 :: some (.long x) :: none :: r0) st S k n) : R l G cy y b nL rt d mc ms Q pc (a0 :: a1 :: a2 :: a3 :: x0 :: x1 :: r0) (.long x :: st) S k n := r_lstore hd hn (fun a ha => by cases ha; exact hp) h
theorem r_ist5 {a0 a1 a2 a3 a4 x0 : Option Value} {r0 : List (Option Value)} {x : Int32} (hd : decode b pc = .ok (.istore 5, 2)) (hn : 5 < nL) (hp : okp a4 = true) (h : R l G cy y b nL rt d mc ms Q (pc + 2) (a0 :: a1 :: a2 :: a3 :: a4 :: some (.int x) :: r0) st S k n) : R l G cy y b nL rt d mc ms Q pc (a0 :: a1 :: a2 :: a3 :: a4 :: x0 :: r0) (.int x :: st) S k n := r_istore hd hn (fun a ha => by cases ha; exact hp) h
theorem r_ast5 {a0 a1 a2 a3 a4 x0 : Option Value} {r0 : List (Option Value)} {x : Nat} (hd : decode b pc = .ok (.astore 5, 2)) (hn : 5 < nL) (hp : okp a4 = true) (h : R l G cy y b nL rt d mc ms Q (pc + 2) (a0 :: a1 :: a2 :: a3 :: a4 :: some (.ref x) :: r0) st S k n) : R l G cy y b nL rt d mc ms Q pc (a0 :: a1 :: a2 :: a3 :: a4 :: x0 :: r0) (.ref x :: st) S k n := r_astore hd hn (fun a ha => by cases ha; exact hp) h
theorem r_ast5N {a0 a1 a2 a3 a4 x0 : Option Value} {r0 : List (Option Value)}  (hd : decode b pc = .ok (.astore 5, 2)) (hn : 5 < nL) (hp : okp a4 = true) (h : R l G cy y b nL rt d mc ms Q (pc + 2) (a0 :: a1 :: a2 :: a3 :: a4 :: some (.null) :: r0) st S k n) : R l G cy y b nL rt d mc ms Q pc (a0 :: a1 :: a2 :: a3 :: a4 :: x0 :: r0) (.null :: st) S k n := r_astoreN hd hn (fun a ha => by cases ha; exact hp) h
theorem r_inc5 {a0 a1 a2 a3 a4 x0 : Option Value} {r0 : List (Option Value)} {z : Int} {x v : Int32} (hd : decode b pc = .ok (.iinc 5 z, 3)) (hz : x + Int32.ofInt z = v) (hn : 5 < nL) (hp : okp a4 = true) (h : R l G cy y b nL rt d mc ms Q (pc + 3) (a0 :: a1 :: a2 :: a3 :: a4 :: some (.int v) :: r0) st S k n) : R l G cy y b nL rt d mc ms Q pc (a0 :: a1 :: a2 :: a3 :: a4 :: some (.int x) :: r0) st S k n := r_iinc hd rfl hz hn (fun a ha => by cases ha; exact hp) h
theorem r_lst5 {a0 a1 a2 a3 a4 x0 x1 : Option Value} {r0 : List (Option Value)} {x : Int64} (hd : decode b pc = .ok (.lstore 5, 2)) (hn : 5 + 1 < nL) (hp : okp a4 = true) (h : R l G cy y b nL rt d mc ms Q (pc + 2) (a0 :: a1 :: a2 :: a3 :: a4 :: some (.long x) :: none :: r0) st S k n) : R l G cy y b nL rt d mc ms Q pc (a0 :: a1 :: a2 :: a3 :: a4 :: x0 :: x1 :: r0) (.long x :: st) S k n := r_lstore hd hn (fun a ha => by cases ha; exact hp) h
theorem r_ist6 {a0 a1 a2 a3 a4 a5 x0 : Option Value} {r0 : List (Option Value)} {x : Int32} (hd : decode b pc = .ok (.istore 6, 2)) (hn : 6 < nL) (hp : okp a5 = true) (h : R l G cy y b nL rt d mc ms Q (pc + 2) (a0 :: a1 :: a2 :: a3 :: a4 :: a5 :: some (.int x) :: r0) st S k n) : R l G cy y b nL rt d mc ms Q pc (a0 :: a1 :: a2 :: a3 :: a4 :: a5 :: x0 :: r0) (.int x :: st) S k n := r_istore hd hn (fun a ha => by cases ha; exact hp) h
theorem r_ast6 {a0 a1 a2 a3 a4 a5 x0 : Option Value} {r0 : List (Option Value)} {x : Nat} (hd : decode b pc = .ok (.astore 6, 2)) (hn : 6 < nL) (hp : okp a5 = true) (h : R l G cy y b nL rt d mc ms Q (pc + 2) (a0 :: a1 :: a2 :: a3 :: a4 :: a5 :: some (.ref x) :: r0) st S k n) : R l G cy y b nL rt d mc ms Q pc (a0 :: a1 :: a2 :: a3 :: a4 :: a5 :: x0 :: r0) (.ref x :: st) S k n := r_astore hd hn (fun a ha => by cases ha; exact hp) h
theorem r_ast6N {a0 a1 a2 a3 a4 a5 x0 : Option Value} {r0 : List (Option Value)}  (hd : decode b pc = .ok (.astore 6, 2)) (hn : 6 < nL) (hp : okp a5 = true) (h : R l G cy y b nL rt d mc ms Q (pc + 2) (a0 :: a1 :: a2 :: a3 :: a4 :: a5 :: some (.null) :: r0) st S k n) : R l G cy y b nL rt d mc ms Q pc (a0 :: a1 :: a2 :: a3 :: a4 :: a5 :: x0 :: r0) (.null :: st) S k n := r_astoreN hd hn (fun a ha => by cases ha; exact hp) h
theorem r_inc6 {a0 a1 a2 a3 a4 a5 x0 : Option Value} {r0 : List (Option Value)} {z : Int} {x v : Int32} (hd : decode b pc = .ok (.iinc 6 z, 3)) (hz : x + Int32.ofInt z = v) (hn : 6 < nL) (hp : okp a5 = true) (h : R l G cy y b nL rt d mc ms Q (pc + 3) (a0 :: a1 :: a2 :: a3 :: a4 :: a5 :: some (.int v) :: r0) st S k n) : R l G cy y b nL rt d mc ms Q pc (a0 :: a1 :: a2 :: a3 :: a4 :: a5 :: some (.int x) :: r0) st S k n := r_iinc hd rfl hz hn (fun a ha => by cases ha; exact hp) h
theorem r_lst6 {a0 a1 a2 a3 a4 a5 x0 x1 : Option Value} {r0 : List (Option Value)} {x : Int64} (hd : decode b pc = .ok (.lstore 6, 2)) (hn : 6 + 1 < nL) (hp : okp a5 = true) (h : R l G cy y b nL rt d mc ms Q (pc + 2) (a0 :: a1 :: a2 :: a3 :: a4 :: a5 :: some (.long x) :: none :: r0) st S k n) : R l G cy y b nL rt d mc ms Q pc (a0 :: a1 :: a2 :: a3 :: a4 :: a5 :: x0 :: x1 :: r0) (.long x :: st) S k n := r_lstore hd hn (fun a ha => by cases ha; exact hp) h
theorem r_ist7 {a0 a1 a2 a3 a4 a5 a6 x0 : Option Value} {r0 : List (Option Value)} {x : Int32} (hd : decode b pc = .ok (.istore 7, 2)) (hn : 7 < nL) (hp : okp a6 = true) (h : R l G cy y b nL rt d mc ms Q (pc + 2) (a0 :: a1 :: a2 :: a3 :: a4 :: a5 :: a6 :: some (.int x) :: r0) st S k n) : R l G cy y b nL rt d mc ms Q pc (a0 :: a1 :: a2 :: a3 :: a4 :: a5 :: a6 :: x0 :: r0) (.int x :: st) S k n := r_istore hd hn (fun a ha => by cases ha; exact hp) h
theorem r_ast7 {a0 a1 a2 a3 a4 a5 a6 x0 : Option Value} {r0 : List (Option Value)} {x : Nat} (hd : decode b pc = .ok (.astore 7, 2)) (hn : 7 < nL) (hp : okp a6 = true) (h : R l G cy y b nL rt d mc ms Q (pc + 2) (a0 :: a1 :: a2 :: a3 :: a4 :: a5 :: a6 :: some (.ref x) :: r0) st S k n) : R l G cy y b nL rt d mc ms Q pc (a0 :: a1 :: a2 :: a3 :: a4 :: a5 :: a6 :: x0 :: r0) (.ref x :: st) S k n := r_astore hd hn (fun a ha => by cases ha; exact hp) h
theorem r_ast7N {a0 a1 a2 a3 a4 a5 a6 x0 : Option Value} {r0 : List (Option Value)}  (hd : decode b pc = .ok (.astore 7, 2)) (hn : 7 < nL) (hp : okp a6 = true) (h : R l G cy y b nL rt d mc ms Q (pc + 2) (a0 :: a1 :: a2 :: a3 :: a4 :: a5 :: a6 :: some (.null) :: r0) st S k n) : R l G cy y b nL rt d mc ms Q pc (a0 :: a1 :: a2 :: a3 :: a4 :: a5 :: a6 :: x0 :: r0) (.null :: st) S k n := r_astoreN hd hn (fun a ha => by cases ha; exact hp) h
theorem r_inc7 {a0 a1 a2 a3 a4 a5 a6 x0 : Option Value} {r0 : List (Option Value)} {z : Int} {x v : Int32} (hd : decode b pc = .ok (.iinc 7 z, 3)) (hz : x + Int32.ofInt z = v) (hn : 7 < nL) (hp : okp a6 = true) (h : R l G cy y b nL rt d mc ms Q (pc + 3) (a0 :: a1 :: a2 :: a3 :: a4 :: a5 :: a6 :: some (.int v) :: r0) st S k n) : R l G cy y b nL rt d mc ms Q pc (a0 :: a1 :: a2 :: a3 :: a4 :: a5 :: a6 :: some (.int x) :: r0) st S k n := r_iinc hd rfl hz hn (fun a ha => by cases ha; exact hp) h
theorem r_lst7 {a0 a1 a2 a3 a4 a5 a6 x0 x1 : Option Value} {r0 : List (Option Value)} {x : Int64} (hd : decode b pc = .ok (.lstore 7, 2)) (hn : 7 + 1 < nL) (hp : okp a6 = true) (h : R l G cy y b nL rt d mc ms Q (pc + 2) (a0 :: a1 :: a2 :: a3 :: a4 :: a5 :: a6 :: some (.long x) :: none :: r0) st S k n) : R l G cy y b nL rt d mc ms Q pc (a0 :: a1 :: a2 :: a3 :: a4 :: a5 :: a6 :: x0 :: x1 :: r0) (.long x :: st) S k n := r_lstore hd hn (fun a ha => by cases ha; exact hp) h
theorem r_ist8 {a0 a1 a2 a3 a4 a5 a6 a7 x0 : Option Value} {r0 : List (Option Value)} {x : Int32} (hd : decode b pc = .ok (.istore 8, 2)) (hn : 8 < nL) (hp : okp a7 = true) (h : R l G cy y b nL rt d mc ms Q (pc + 2) (a0 :: a1 :: a2 :: a3 :: a4 :: a5 :: a6 :: a7 :: some (.int x) :: r0) st S k n) : R l G cy y b nL rt d mc ms Q pc (a0 :: a1 :: a2 :: a3 :: a4 :: a5 :: a6 :: a7 :: x0 :: r0) (.int x :: st) S k n := r_istore hd hn (fun a ha => by cases ha; exact hp) h
theorem r_ast8 {a0 a1 a2 a3 a4 a5 a6 a7 x0 : Option Value} {r0 : List (Option Value)} {x : Nat} (hd : decode b pc = .ok (.astore 8, 2)) (hn : 8 < nL) (hp : okp a7 = true) (h : R l G cy y b nL rt d mc ms Q (pc + 2) (a0 :: a1 :: a2 :: a3 :: a4 :: a5 :: a6 :: a7 :: some (.ref x) :: r0) st S k n) : R l G cy y b nL rt d mc ms Q pc (a0 :: a1 :: a2 :: a3 :: a4 :: a5 :: a6 :: a7 :: x0 :: r0) (.ref x :: st) S k n := r_astore hd hn (fun a ha => by cases ha; exact hp) h
theorem r_ast8N {a0 a1 a2 a3 a4 a5 a6 a7 x0 : Option Value} {r0 : List (Option Value)}  (hd : decode b pc = .ok (.astore 8, 2)) (hn : 8 < nL) (hp : okp a7 = true) (h : R l G cy y b nL rt d mc ms Q (pc + 2) (a0 :: a1 :: a2 :: a3 :: a4 :: a5 :: a6 :: a7 :: some (.null) :: r0) st S k n) : R l G cy y b nL rt d mc ms Q pc (a0 :: a1 :: a2 :: a3 :: a4 :: a5 :: a6 :: a7 :: x0 :: r0) (.null :: st) S k n := r_astoreN hd hn (fun a ha => by cases ha; exact hp) h
theorem r_inc8 {a0 a1 a2 a3 a4 a5 a6 a7 x0 : Option Value} {r0 : List (Option Value)} {z : Int} {x v : Int32} (hd : decode b pc = .ok (.iinc 8 z, 3)) (hz : x + Int32.ofInt z = v) (hn : 8 < nL) (hp : okp a7 = true) (h : R l G cy y b nL rt d mc ms Q (pc + 3) (a0 :: a1 :: a2 :: a3 :: a4 :: a5 :: a6 :: a7 :: some (.int v) :: r0) st S k n) : R l G cy y b nL rt d mc ms Q pc (a0 :: a1 :: a2 :: a3 :: a4 :: a5 :: a6 :: a7 :: some (.int x) :: r0) st S k n := r_iinc hd rfl hz hn (fun a ha => by cases ha; exact hp) h
theorem r_lst8 {a0 a1 a2 a3 a4 a5 a6 a7 x0 x1 : Option Value} {r0 : List (Option Value)} {x : Int64} (hd : decode b pc = .ok (.lstore 8, 2)) (hn : 8 + 1 < nL) (hp : okp a7 = true) (h : R l G cy y b nL rt d mc ms Q (pc + 2) (a0 :: a1 :: a2 :: a3 :: a4 :: a5 :: a6 :: a7 :: some (.long x) :: none :: r0) st S k n) : R l G cy y b nL rt d mc ms Q pc (a0 :: a1 :: a2 :: a3 :: a4 :: a5 :: a6 :: a7 :: x0 :: x1 :: r0) (.long x :: st) S k n := r_lstore hd hn (fun a ha => by cases ha; exact hp) h
theorem r_ist9 {a0 a1 a2 a3 a4 a5 a6 a7 a8 x0 : Option Value} {r0 : List (Option Value)} {x : Int32} (hd : decode b pc = .ok (.istore 9, 2)) (hn : 9 < nL) (hp : okp a8 = true) (h : R l G cy y b nL rt d mc ms Q (pc + 2) (a0 :: a1 :: a2 :: a3 :: a4 :: a5 :: a6 :: a7 :: a8 :: some (.int x) :: r0) st S k n) : R l G cy y b nL rt d mc ms Q pc (a0 :: a1 :: a2 :: a3 :: a4 :: a5 :: a6 :: a7 :: a8 :: x0 :: r0) (.int x :: st) S k n := r_istore hd hn (fun a ha => by cases ha; exact hp) h
theorem r_ast9 {a0 a1 a2 a3 a4 a5 a6 a7 a8 x0 : Option Value} {r0 : List (Option Value)} {x : Nat} (hd : decode b pc = .ok (.astore 9, 2)) (hn : 9 < nL) (hp : okp a8 = true) (h : R l G cy y b nL rt d mc ms Q (pc + 2) (a0 :: a1 :: a2 :: a3 :: a4 :: a5 :: a6 :: a7 :: a8 :: some (.ref x) :: r0) st S k n) : R l G cy y b nL rt d mc ms Q pc (a0 :: a1 :: a2 :: a3 :: a4 :: a5 :: a6 :: a7 :: a8 :: x0 :: r0) (.ref x :: st) S k n := r_astore hd hn (fun a ha => by cases ha; exact hp) h
theorem r_ast9N {a0 a1 a2 a3 a4 a5 a6 a7 a8 x0 : Option Value} {r0 : List (Option Value)}  (hd : decode b pc = .ok (.astore 9, 2)) (hn : 9 < nL) (hp : okp a8 = true) (h : R l G cy y b nL rt d mc ms Q (pc + 2) (a0 :: a1 :: a2 :: a3 :: a4 :: a5 :: a6 :: a7 :: a8 :: some (.null) :: r0) st S k n) : R l G cy y b nL rt d mc ms Q pc (a0 :: a1 :: a2 :: a3 :: a4 :: a5 :: a6 :: a7 :: a8 :: x0 :: r0) (.null :: st) S k n := r_astoreN hd hn (fun a ha => by cases ha; exact hp) h
theorem r_inc9 {a0 a1 a2 a3 a4 a5 a6 a7 a8 x0 : Option Value} {r0 : List (Option Value)} {z : Int} {x v : Int32} (hd : decode b pc = .ok (.iinc 9 z, 3)) (hz : x + Int32.ofInt z = v) (hn : 9 < nL) (hp : okp a8 = true) (h : R l G cy y b nL rt d mc ms Q (pc + 3) (a0 :: a1 :: a2 :: a3 :: a4 :: a5 :: a6 :: a7 :: a8 :: some (.int v) :: r0) st S k n) : R l G cy y b nL rt d mc ms Q pc (a0 :: a1 :: a2 :: a3 :: a4 :: a5 :: a6 :: a7 :: a8 :: some (.int x) :: r0) st S k n := r_iinc hd rfl hz hn (fun a ha => by cases ha; exact hp) h
theorem r_lst9 {a0 a1 a2 a3 a4 a5 a6 a7 a8 x0 x1 : Option Value} {r0 : List (Option Value)} {x : Int64} (hd : decode b pc = .ok (.lstore 9, 2)) (hn : 9 + 1 < nL) (hp : okp a8 = true) (h : R l G cy y b nL rt d mc ms Q (pc + 2) (a0 :: a1 :: a2 :: a3 :: a4 :: a5 :: a6 :: a7 :: a8 :: some (.long x) :: none :: r0) st S k n) : R l G cy y b nL rt d mc ms Q pc (a0 :: a1 :: a2 :: a3 :: a4 :: a5 :: a6 :: a7 :: a8 :: x0 :: x1 :: r0) (.long x :: st) S k n := r_lstore hd hn (fun a ha => by cases ha; exact hp) h
theorem r_ist10 {a0 a1 a2 a3 a4 a5 a6 a7 a8 a9 x0 : Option Value} {r0 : List (Option Value)} {x : Int32} (hd : decode b pc = .ok (.istore 10, 2)) (hn : 10 < nL) (hp : okp a9 = true) (h : R l G cy y b nL rt d mc ms Q (pc + 2) (a0 :: a1 :: a2 :: a3 :: a4 :: a5 :: a6 :: a7 :: a8 :: a9 :: some (.int x) :: r0) st S k n) : R l G cy y b nL rt d mc ms Q pc (a0 :: a1 :: a2 :: a3 :: a4 :: a5 :: a6 :: a7 :: a8 :: a9 :: x0 :: r0) (.int x :: st) S k n := r_istore hd hn (fun a ha => by cases ha; exact hp) h
theorem r_ast10 {a0 a1 a2 a3 a4 a5 a6 a7 a8 a9 x0 : Option Value} {r0 : List (Option Value)} {x : Nat} (hd : decode b pc = .ok (.astore 10, 2)) (hn : 10 < nL) (hp : okp a9 = true) (h : R l G cy y b nL rt d mc ms Q (pc + 2) (a0 :: a1 :: a2 :: a3 :: a4 :: a5 :: a6 :: a7 :: a8 :: a9 :: some (.ref x) :: r0) st S k n) : R l G cy y b nL rt d mc ms Q pc (a0 :: a1 :: a2 :: a3 :: a4 :: a5 :: a6 :: a7 :: a8 :: a9 :: x0 :: r0) (.ref x :: st) S k n := r_astore hd hn (fun a ha => by cases ha; exact hp) h
theorem r_ast10N {a0 a1 a2 a3 a4 a5 a6 a7 a8 a9 x0 : Option Value} {r0 : List (Option Value)}  (hd : decode b pc = .ok (.astore 10, 2)) (hn : 10 < nL) (hp : okp a9 = true) (h : R l G cy y b nL rt d mc ms Q (pc + 2) (a0 :: a1 :: a2 :: a3 :: a4 :: a5 :: a6 :: a7 :: a8 :: a9 :: some (.null) :: r0) st S k n) : R l G cy y b nL rt d mc ms Q pc (a0 :: a1 :: a2 :: a3 :: a4 :: a5 :: a6 :: a7 :: a8 :: a9 :: x0 :: r0) (.null :: st) S k n := r_astoreN hd hn (fun a ha => by cases ha; exact hp) h
theorem r_inc10 {a0 a1 a2 a3 a4 a5 a6 a7 a8 a9 x0 : Option Value} {r0 : List (Option Value)} {z : Int} {x v : Int32} (hd : decode b pc = .ok (.iinc 10 z, 3)) (hz : x + Int32.ofInt z = v) (hn : 10 < nL) (hp : okp a9 = true) (h : R l G cy y b nL rt d mc ms Q (pc + 3) (a0 :: a1 :: a2 :: a3 :: a4 :: a5 :: a6 :: a7 :: a8 :: a9 :: some (.int v) :: r0) st S k n) : R l G cy y b nL rt d mc ms Q pc (a0 :: a1 :: a2 :: a3 :: a4 :: a5 :: a6 :: a7 :: a8 :: a9 :: some (.int x) :: r0) st S k n := r_iinc hd rfl hz hn (fun a ha => by cases ha; exact hp) h
theorem r_lst10 {a0 a1 a2 a3 a4 a5 a6 a7 a8 a9 x0 x1 : Option Value} {r0 : List (Option Value)} {x : Int64} (hd : decode b pc = .ok (.lstore 10, 2)) (hn : 10 + 1 < nL) (hp : okp a9 = true) (h : R l G cy y b nL rt d mc ms Q (pc + 2) (a0 :: a1 :: a2 :: a3 :: a4 :: a5 :: a6 :: a7 :: a8 :: a9 :: some (.long x) :: none :: r0) st S k n) : R l G cy y b nL rt d mc ms Q pc (a0 :: a1 :: a2 :: a3 :: a4 :: a5 :: a6 :: a7 :: a8 :: a9 :: x0 :: x1 :: r0) (.long x :: st) S k n := r_lstore hd hn (fun a ha => by cases ha; exact hp) h
theorem r_ist11 {a0 a1 a2 a3 a4 a5 a6 a7 a8 a9 a10 x0 : Option Value} {r0 : List (Option Value)} {x : Int32} (hd : decode b pc = .ok (.istore 11, 2)) (hn : 11 < nL) (hp : okp a10 = true) (h : R l G cy y b nL rt d mc ms Q (pc + 2) (a0 :: a1 :: a2 :: a3 :: a4 :: a5 :: a6 :: a7 :: a8 :: a9 :: a10 :: some (.int x) :: r0) st S k n) : R l G cy y b nL rt d mc ms Q pc (a0 :: a1 :: a2 :: a3 :: a4 :: a5 :: a6 :: a7 :: a8 :: a9 :: a10 :: x0 :: r0) (.int x :: st) S k n := r_istore hd hn (fun a ha => by cases ha; exact hp) h
theorem r_ast11 {a0 a1 a2 a3 a4 a5 a6 a7 a8 a9 a10 x0 : Option Value} {r0 : List (Option Value)} {x : Nat} (hd : decode b pc = .ok (.astore 11, 2)) (hn : 11 < nL) (hp : okp a10 = true) (h : R l G cy y b nL rt d mc ms Q (pc + 2) (a0 :: a1 :: a2 :: a3 :: a4 :: a5 :: a6 :: a7 :: a8 :: a9 :: a10 :: some (.ref x) :: r0) st S k n) : R l G cy y b nL rt d mc ms Q pc (a0 :: a1 :: a2 :: a3 :: a4 :: a5 :: a6 :: a7 :: a8 :: a9 :: a10 :: x0 :: r0) (.ref x :: st) S k n := r_astore hd hn (fun a ha => by cases ha; exact hp) h
theorem r_ast11N {a0 a1 a2 a3 a4 a5 a6 a7 a8 a9 a10 x0 : Option Value} {r0 : List (Option Value)}  (hd : decode b pc = .ok (.astore 11, 2)) (hn : 11 < nL) (hp : okp a10 = true) (h : R l G cy y b nL rt d mc ms Q (pc + 2) (a0 :: a1 :: a2 :: a3 :: a4 :: a5 :: a6 :: a7 :: a8 :: a9 :: a10 :: some (.null) :: r0) st S k n) : R l G cy y b nL rt d mc ms Q pc (a0 :: a1 :: a2 :: a3 :: a4 :: a5 :: a6 :: a7 :: a8 :: a9 :: a10 :: x0 :: r0) (.null :: st) S k n := r_astoreN hd hn (fun a ha => by cases ha; exact hp) h
theorem r_inc11 {a0 a1 a2 a3 a4 a5 a6 a7 a8 a9 a10 x0 : Option Value} {r0 : List (Option Value)} {z : Int} {x v : Int32} (hd : decode b pc = .ok (.iinc 11 z, 3)) (hz : x + Int32.ofInt z = v) (hn : 11 < nL) (hp : okp a10 = true) (h : R l G cy y b nL rt d mc ms Q (pc + 3) (a0 :: a1 :: a2 :: a3 :: a4 :: a5 :: a6 :: a7 :: a8 :: a9 :: a10 :: some (.int v) :: r0) st S k n) : R l G cy y b nL rt d mc ms Q pc (a0 :: a1 :: a2 :: a3 :: a4 :: a5 :: a6 :: a7 :: a8 :: a9 :: a10 :: some (.int x) :: r0) st S k n := r_iinc hd rfl hz hn (fun a ha => by cases ha; exact hp) h
theorem r_lst11 {a0 a1 a2 a3 a4 a5 a6 a7 a8 a9 a10 x0 x1 : Option Value} {r0 : List (Option Value)} {x : Int64} (hd : decode b pc = .ok (.lstore 11, 2)) (hn : 11 + 1 < nL) (hp : okp a10 = true) (h : R l G cy y b nL rt d mc ms Q (pc + 2) (a0 :: a1 :: a2 :: a3 :: a4 :: a5 :: a6 :: a7 :: a8 :: a9 :: a10 :: some (.long x) :: none :: r0) st S k n) : R l G cy y b nL rt d mc ms Q pc (a0 :: a1 :: a2 :: a3 :: a4 :: a5 :: a6 :: a7 :: a8 :: a9 :: a10 :: x0 :: x1 :: r0) (.long x :: st) S k n := r_lstore hd hn (fun a ha => by cases ha; exact hp) h
theorem r_ist12 {a0 a1 a2 a3 a4 a5 a6 a7 a8 a9 a10 a11 x0 : Option Value} {r0 : List (Option Value)} {x : Int32} (hd : decode b pc = .ok (.istore 12, 2)) (hn : 12 < nL) (hp : okp a11 = true) (h : R l G cy y b nL rt d mc ms Q (pc + 2) (a0 :: a1 :: a2 :: a3 :: a4 :: a5 :: a6 :: a7 :: a8 :: a9 :: a10 :: a11 :: some (.int x) :: r0) st S k n) : R l G cy y b nL rt d mc ms Q pc (a0 :: a1 :: a2 :: a3 :: a4 :: a5 :: a6 :: a7 :: a8 :: a9 :: a10 :: a11 :: x0 :: r0) (.int x :: st) S k n := r_istore hd hn (fun a ha => by cases ha; exact hp) h
theorem r_ast12 {a0 a1 a2 a3 a4 a5 a6 a7 a8 a9 a10 a11 x0 : Option Value} {r0 : List (Option Value)} {x : Nat} (hd : decode b pc = .ok (.astore 12, 2)) (hn : 12 < nL) (hp : okp a11 = true) (h : R l G cy y b nL rt d mc ms Q (pc + 2) (a0 :: a1 :: a2 :: a3 :: a4 :: a5 :: a6 :: a7 :: a8 :: a9 :: a10 :: a11 :: some (.ref x) :: r0) st S k n) : R l G cy y b nL rt d mc ms Q pc (a0 :: a1 :: a2 :: a3 :: a4 :: a5 :: a6 :: a7 :: a8 :: a9 :: a10 :: a11 :: x0 :: r0) (.ref x :: st) S k n := r_astore hd hn (fun a ha => by cases ha; exact hp) h
theorem r_ast12N {a0 a1 a2 a3 a4 a5 a6 a7 a8 a9 a10 a11 x0 : Option Value} {r0 : List (Option Value)}  (hd : decode b pc = .ok (.astore 12, 2)) (hn : 12 < nL) (hp : okp a11 = true) (h : R l G cy y b nL rt d mc ms Q (pc + 2) (a0 :: a1 :: a2 :: a3 :: a4 :: a5 :: a6 :: a7 :: a8 :: a9 :: a10 :: a11 :: some (.null) :: r0) st S k n) : R l G cy y b nL rt d mc ms Q pc (a0 :: a1 :: a2 :: a3 :: a4 :: a5 :: a6 :: a7 :: a8 :: a9 :: a10 :: a11 :: x0 :: r0) (.null :: st) S k n := r_astoreN hd hn (fun a ha => by cases ha; exact hp) h
theorem r_inc12 {a0 a1 a2 a3 a4 a5 a6 a7 a8 a9 a10 a11 x0 : Option Value} {r0 : List (Option Value)} {z : Int} {x v : Int32} (hd : decode b pc = .ok (.iinc 12 z, 3)) (hz : x + Int32.ofInt z = v) (hn : 12 < nL) (hp : okp a11 = true) (h : R l G cy y b nL rt d mc ms Q (pc + 3) (a0 :: a1 :: a2 :: a3 :: a4 :: a5 :: a6 :: a7 :: a8 :: a9 :: a10 :: a11 :: some (.int v) :: r0) st S k n) : R l G cy y b nL rt d mc ms Q pc (a0 :: a1 :: a2 :: a3 :: a4 :: a5 :: a6 :: a7 :: a8 :: a9 :: a10 :: a11 :: some (.int x) :: r0) st S k n := r_iinc hd rfl hz hn (fun a ha => by cases ha; exact hp) h
theorem r_lst12 {a0 a1 a2 a3 a4 a5 a6 a7 a8 a9 a10 a11 x0 x1 : Option Value} {r0 : List (Option Value)} {x : Int64} (hd : decode b pc = .ok (.lstore 12, 2)) (hn : 12 + 1 < nL) (hp : okp a11 = true) (h : R l G cy y b nL rt d mc ms Q (pc + 2) (a0 :: a1 :: a2 :: a3 :: a4 :: a5 :: a6 :: a7 :: a8 :: a9 :: a10 :: a11 :: some (.long x) :: none :: r0) st S k n) : R l G cy y b nL rt d mc ms Q pc (a0 :: a1 :: a2 :: a3 :: a4 :: a5 :: a6 :: a7 :: a8 :: a9 :: a10 :: a11 :: x0 :: x1 :: r0) (.long x :: st) S k n := r_lstore hd hn (fun a ha => by cases ha; exact hp) h
theorem r_ist13 {a0 a1 a2 a3 a4 a5 a6 a7 a8 a9 a10 a11 a12 x0 : Option Value} {r0 : List (Option Value)} {x : Int32} (hd : decode b pc = .ok (.istore 13, 2)) (hn : 13 < nL) (hp : okp a12 = true) (h : R l G cy y b nL rt d mc ms Q (pc + 2) (a0 :: a1 :: a2 :: a3 :: a4 :: a5 :: a6 :: a7 :: a8 :: a9 :: a10 :: a11 :: a12 :: some (.int x) :: r0) st S k n) : R l G cy y b nL rt d mc ms Q pc (a0 :: a1 :: a2 :: a3 :: a4 :: a5 :: a6 :: a7 :: a8 :: a9 :: a10 :: a11 :: a12 :: x0 :: r0) (.int x :: st) S k n := r_istore hd hn (fun a ha => by cases ha; exact hp) h
theorem r_ast13 {a0 a1 a2 a3 a4 a5 a6 a7 a8 a9 a10 a11 a12 x0 : Option Value} {r0 : List (Option Value)} {x : Nat} (hd : decode b pc = .ok (.astore 13, 2)) (hn : 13 < nL) (hp : okp a12 = true) (h : R l G cy y b nL rt d mc ms Q (pc + 2) (a0 :: a1 :: a2 :: a3 :: a4 :: a5 :: a6 :: a7 :: a8 :: a9 :: a10 :: a11 :: a12 :: some (.ref x) :: r0) st S k n) : R l G cy y b nL rt d mc ms Q pc (a0 :: a1 :: a2 :: a3 :: a4 :: a5 :: a6 :: a7 :: a8 :: a9 :: a10 :: a11 :: a12 :: x0 :: r0) (.ref x :: st) S k n := r_astore hd hn (fun a ha => by cases ha; exact hp) h
theorem r_ast13N {a0 a1 a2 a3 a4 a5 a6 a7 a8 a9 a10 a11 a12 x0 : Option Value} {r0 : List (Option Value)}  (hd : decode b pc = .ok (.astore 13, 2)) (hn : 13 < nL) (hp : okp a12 = true) (h : R l G cy y b nL rt d mc ms Q (pc + 2) (a0 :: a1 :: a2 :: a3 :: a4 :: a5 :: a6 :: a7 :: a8 :: a9 :: a10 :: a11 :: a12 :: some (.null) :: r0) st S k n) : R l G cy y b nL rt d mc ms Q pc (a0 :: a1 :: a2 :: a3 :: a4 :: a5 :: a6 :: a7 :: a8 :: a9 :: a10 :: a11 :: a12 :: x0 :: r0) (.null :: st) S k n := r_astoreN hd hn (fun a ha => by cases ha; exact hp) h
theorem r_inc13 {a0 a1 a2 a3 a4 a5 a6 a7 a8 a9 a10 a11 a12 x0 : Option Value} {r0 : List (Option Value)} {z : Int} {x v : Int32} (hd : decode b pc = .ok (.iinc 13 z, 3)) (hz : x + Int32.ofInt z = v) (hn : 13 < nL) (hp : okp a12 = true) (h : R l G cy y b nL rt d mc ms Q (pc + 3) (a0 :: a1 :: a2 :: a3 :: a4 :: a5 :: a6 :: a7 :: a8 :: a9 :: a10 :: a11 :: a12 :: some (.int v) :: r0) st S k n) : R l G cy y b nL rt d mc ms Q pc (a0 :: a1 :: a2 :: a3 :: a4 :: a5 :: a6 :: a7 :: a8 :: a9 :: a10 :: a11 :: a12 :: some (.int x) :: r0) st S k n := r_iinc hd rfl hz hn (fun a ha => by cases ha; exact hp) h
theorem r_lst13 {a0 a1 a2 a3 a4 a5 a6 a7 a8 a9 a10 a11 a12 x0 x1 : Option Value} {r0 : List (Option Value)} {x : Int64} (hd : decode b pc = .ok (.lstore 13, 2)) (hn : 13 + 1 < nL) (hp : okp a12 = true) (h : R l G cy y b nL rt d mc ms Q (pc + 2) (a0 :: a1 :: a2 :: a3 :: a4 :: a5 :: a6 :: a7 :: a8 :: a9 :: a10 :: a11 :: a12 :: some (.long x) :: none :: r0) st S k n) : R l G cy y b nL rt d mc ms Q pc (a0 :: a1 :: a2 :: a3 :: a4 :: a5 :: a6 :: a7 :: a8 :: a9 :: a10 :: a11 :: a12 :: x0 :: x1 :: r0) (.long x :: st) S k n := r_lstore hd hn (fun a ha => by cases ha; exact hp) h
theorem r_ist14 {a0 a1 a2 a3 a4 a5 a6 a7 a8 a9 a10 a11 a12 a13 x0 : Option Value} {r0 : List (Option Value)} {x : Int32} (hd : decode b pc = .ok (.istore 14, 2)) (hn : 14 < nL) (hp : okp a13 = true) (h : R l G cy y b nL rt d mc ms Q (pc + 2) (a0 :: a1 :: a2 :: a3 :: a4 :: a5 :: a6 :: a7 :: a8 :: a9 :: a10 :: a11 :: a12 :: a13 :: some (.int x) :: r0) st S k n) : R l G cy y b nL rt d mc ms Q pc (a0 :: a1 :: a2 :: a3 :: a4 :: a5 :: a6 :: a7 :: a8 :: a9 :: a10 :: a11 :: a12 :: a13 :: x0 :: r0) (.int x :: st) S k n := r_istore hd hn (fun a ha => by cases ha; exact hp) h
theorem r_ast14 {a0 a1 a2 a3 a4 a5 a6 a7 a8 a9 a10 a11 a12 a13 x0 : Option Value} {r0 : List (Option Value)} {x : Nat} (hd : decode b pc = .ok (.astore 14, 2)) (hn : 14 < nL) (hp : okp a13 = true) (h : R l G cy y b nL rt d mc ms Q (pc + 2) (a0 :: a1 :: a2 :: a3 :: a4 :: a5 :: a6 :: a7 :: a8 :: a9 :: a10 :: a11 :: a12 :: a13 :: some (.ref x) :: r0) st S k n) : R l G cy y b nL rt d mc ms Q pc (a0 :: a1 :: a2 :: a3 :: a4 :: a5 :: a6 :: a7 :: a8 :: a9 :: a10 :: a11 :: a12 :: a13 :: x0 :: r0) (.ref x :: st) S k n := r_astore hd hn (fun a ha => by cases ha; exact hp) h
theorem r_ast14N {a0 a1 a2 a3 a4 a5 a6 a7 a8 a9 a10 a11 a12 a13 x0 : Option Value} {r0 : List (Option Value)}  (hd : decode b pc = .ok (.astore 14, 2)) (hn : 14 < nL) (hp : okp a13 = true) (h : R l G cy y b nL rt d mc ms Q (pc + 2) (a0 :: a1 :: a2 :: a3 :: a4 :: a5 :: a6 :: a7 :: a8 :: a9 :: a10 :: a11 :: a12 :: a13 :: some (.null) :: r0) st S k n) : R l G cy y b nL rt d mc ms Q pc (a0 :: a1 :: a2 :: a3 :: a4 :: a5 :: a6 :: a7 :: a8 :: a9 :: a10 :: a11 :: a12 :: a13 :: x0 :: r0) (.null :: st) S k n := r_astoreN hd hn (fun a ha => by cases ha; exact hp) h
theorem r_inc14 {a0 a1 a2 a3 a4 a5 a6 a7 a8 a9 a10 a11 a12 a13 x0 : Option Value} {r0 : List (Option Value)} {z : Int} {x v : Int32} (hd : decode b pc = .ok (.iinc 14 z, 3)) (hz : x + Int32.ofInt z = v) (hn : 14 < nL) (hp : okp a13 = true) (h : R l G cy y b nL rt d mc ms Q (pc + 3) (a0 :: a1 :: a2 :: a3 :: a4 :: a5 :: a6 :: a7 :: a8 :: a9 :: a10 :: a11 :: a12 :: a13 :: some (.int v) :: r0) st S k n) : R l G cy y b nL rt d mc ms Q pc (a0 :: a1 :: a2 :: a3 :: a4 :: a5 :: a6 :: a7 :: a8 :: a9 :: a10 :: a11 :: a12 :: a13 :: some (.int x) :: r0) st S k n := r_iinc hd rfl hz hn (fun a ha => by cases ha; exact hp) h
theorem r_lst14 {a0 a1 a2 a3 a4 a5 a6 a7 a8 a9 a10 a11 a12 a13 x0 x1 : Option Value} {r0 : List (Option Value)} {x : Int64} (hd : decode b pc = .ok (.lstore 14, 2)) (hn : 14 + 1 < nL) (hp : okp a13 = true) (h : R l G cy y b nL rt d mc ms Q (pc + 2) (a0 :: a1 :: a2 :: a3 :: a4 :: a5 :: a6 :: a7 :: a8 :: a9 :: a10 :: a11 :: a12 :: a13 :: some (.long x) :: none :: r0) st S k n) : R l G cy y b nL rt d mc ms Q pc (a0 :: a1 :: a2 :: a3 :: a4 :: a5 :: a6 :: a7 :: a8 :: a9 :: a10 :: a11 :: a12 :: a13 :: x0 :: x1 :: r0) (.long x :: st) S k n := r_lstore hd hn (fun a ha => by cases ha; exact hp) h
theorem r_ist15 {a0 a1 a2 a3 a4 a5 a6 a7 a8 a9 a10 a11 a12 a13 a14 x0 : Option Value} {r0 : List (Option Value)} {x : Int32} (hd : decode b pc = .ok (.istore 15, 2)) (hn : 15 < nL) (hp : okp a14 = true) (h : R l G cy y b nL rt d mc ms Q (pc + 2) (a0 :: a1 :: a2 :: a3 :: a4 :: a5 :: a6 :: a7 :: a8 :: a9 :: a10 :: a11 :: a12 :: a13 :: a14 :: some (.int x) :: r0) st S k n) : R l G cy y b nL rt d mc ms Q pc (a0 :: a1 :: a2 :: a3 :: a4 :: a5 :: a6 :: a7 :: a8 :: a9 :: a10 :: a11 :: a12 :: a13 :: a14 :: x0 :: r0) (.int x :: st) S k n := r_istore hd hn (fun a ha => by cases ha; exact hp) h
theorem r_ast15 {a0 a1 a2 a3 a4 a5 a6 a7 a8 a9 a10 a11 a12 a13 a14 x0 : Option Value} {r0 : List (Option Value)} {x : Nat} (hd : decode b pc = .ok (.astore 15, 2)) (hn : 15 < nL) (hp : okp a14 = true) (h : R l G cy y b nL rt d mc ms Q (pc + 2) (a0 :: a1 :: a2 :: a3 :: a4 :: a5 :: a6 :: a7 :: a8 :: a9 :: a10 :: a11 :: a12 :: a13 :: a14 :: some (.ref x) :: r0) st S k n) : R l G cy y b nL rt d mc ms Q pc (a0 :: a1 :: a2 :: a3 :: a4 :: a5 :: a6 :: a7 :: a8 :: a9 :: a10 :: a11 :: a12 :: a13 :: a14 :: x0 :: r0) (.ref x :: st) S k n := r_astore hd hn (fun a ha => by cases ha; exact hp) h
theorem r_ast15N {a0 a1 a2 a3 a4 a5 a6 a7 a8 a9 a10 a11 a12 a13 a14 x0 : Option Value} {r0 : List (Option Value)}  (hd : decode b pc = .ok (.astore 15, 2)) (hn : 15 < nL) (hp : okp a14 = true) (h : R l G cy y b nL rt d mc ms Q (pc + 2) (a0 :: a1 :: a2 :: a3 :: a4 :: a5 :: a6 :: a7 :: a8 :: a9 :: a10 :: a11 :: a12 :: a13 :: a14 :: some (.null) :: r0) st S k n) : R l G cy y b nL rt d mc ms Q pc (a0 :: a1 :: a2 :: a3 :: a4 :: a5 :: a6 :: a7 :: a8 :: a9 :: a10 :: a11 :: a12 :: a13 :: a14 :: x0 :: r0) (.null :: st) S k n := r_astoreN hd hn (fun a ha => by cases ha; exact hp) h
theorem r_inc15 {a0 a1 a2 a3 a4 a5 a6 a7 a8 a9 a10 a11 a12 a13 a14 x0 : Option Value} {r0 : List (Option Value)} {z : Int} {x v : Int32} (hd : decode b pc = .ok (.iinc 15 z, 3)) (hz : x + Int32.ofInt z = v) (hn : 15 < nL) (hp : okp a14 = true) (h : R l G cy y b nL rt d mc ms Q (pc + 3) (a0 :: a1 :: a2 :: a3 :: a4 :: a5 :: a6 :: a7 :: a8 :: a9 :: a10 :: a11 :: a12 :: a13 :: a14 :: some (.int v) :: r0) st S k n) : R l G cy y b nL rt d mc ms Q pc (a0 :: a1 :: a2 :: a3 :: a4 :: a5 :: a6 :: a7 :: a8 :: a9 :: a10 :: a11 :: a12 :: a13 :: a14 :: some (.int x) :: r0) st S k n := r_iinc hd rfl hz hn (fun a ha => by cases ha; exact hp) h
theorem r_lst15 {a0 a1 a2 a3 a4 a5 a6 a7 a8 a9 a10 a11 a12 a13 a14 x0 x1 : Option Value} {r0 : List (Option Value)} {x : Int64} (hd : decode b pc = .ok (.lstore 15, 2)) (hn : 15 + 1 < nL) (hp : okp a14 = true) (h : R l G cy y b nL rt d mc ms Q (pc + 2) (a0 :: a1 :: a2 :: a3 :: a4 :: a5 :: a6 :: a7 :: a8 :: a9 :: a10 :: a11 :: a12 :: a13 :: a14 :: some (.long x) :: none :: r0) st S k n) : R l G cy y b nL rt d mc ms Q pc (a0 :: a1 :: a2 :: a3 :: a4 :: a5 :: a6 :: a7 :: a8 :: a9 :: a10 :: a11 :: a12 :: a13 :: a14 :: x0 :: x1 :: r0) (.long x :: st) S k n := r_lstore hd hn (fun a ha => by cases ha; exact hp) h
end RR
