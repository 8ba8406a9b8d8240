/-! ===== the law: what holds at its start; calls with two worlds apart ===== -/
/-! THE CLAIM OUT OF ONE WALK OF THE LAW'S BODY. Your part is whole_start (and what it stands on); all else here is the same for every law, but numbers. -/
def R_law : String := "HerringSeaLaw"
def lw_P (b : Addr) (xs : List Int32) (args : Array Value) (s : State) : Prop := args = #[.ref b] ∧ s.IntsAt b xs ∧ xs.length ≤ 3072 ∧ (Jvm.Cond.and given_1 narrow_1).before args s = true
def lw_Q (_ : Array Value) (s : State) (o : Outcome) (t : State) : Prop := o = .returned (some (.int 1)) ∧ Framed s o t [] 600000 7302250
def lw_Z (below : List Frame) (a : Array Value) (s : State) : State → Prop := fun t => ∃ o, t.status = .running ∧ Ended t below o ∧ lw_Q a s o t
/-- the law's own end, with 1 on the stack, nothing written that was there before, its room as the claim has it -/
theorem lw_ret {p : Program} {l : Launch} {e : Env} {s : State} {m : MethodId} {below : List Frame} {meth : Method} {c : Code} {b : Nat} (hx : p.tables.exec = Jvm.exec) (hb : c.code = code) (hr : meth.sig.returnType = ret) (hlocks : meth.locks = false) {pc : Nat} {H : Heap} {ls : Array Slot} (hdg : decode code pc = .ok (.ireturn, 1)) : W p l e room_1 s m #[Value.ref b] below meth c H [] 600000 7302250 (lw_Z below #[Value.ref b] s) (F0 m pc ls [.int 1]) := by
  intro T hT X
  obtain ⟨fs, hret, hrun, hended, hW, hframe⟩ := X.leave (v := some (.int 1)) (hlocks := hlocks) (fun h => by rw [hr] at h; cases h)
  have hmeth' : T.vm.method? m = some meth := X.method'
  refine ⟨T.setFrames fs, ?_, .returned (some (.int 1)), hrun, hended, rfl, ⟨_, rfl⟩, hW, hframe⟩
  jvm_step X.here [X.here.top, hx, hb, hdg, hmeth', hr, ret, narrow_b1]
  (try refine ⟨rfl, ?_⟩); (try refine ⟨rfl, ?_⟩)
  first | (intro acts; rw [hret _ acts rfl rfl rfl]) | rw [hret _ _ rfl rfl rfl]
  exact Steps.refl _
/-- what holds at the law's entry: the machine, the code, the tables' words (any of lw_tbl by 'hts w (by decide +kernel)'), the script of L ints xs at the cell b, what the Statement gives of the start (any of its parts by flat_of_before) -/
def lw_At (p : Program) (s : State) (m : MethodId) (meth : Method) (c : Code) (b L : Nat) (xs : Nat → Int32) : Prop :=
  p.tables.exec = Jvm.exec ∧ c.code = code ∧ meth.sig.returnType = ret ∧ c.maxLocals = 4 ∧ s.vm.findClass R_law = some m.cls ∧ (∀ w ∈ lw_tbl, w.before #[Value.ref b] s = true) ∧ va_X b L xs s s.heap ∧ b < s.heap.size ∧ meth.locks = false ∧ (Jvm.Cond.and given_1 narrow_1).before #[Value.ref b] s = true
theorem TBgoodL {y' : MethodName} {b' : ByteArray} {nL' : Nat} {rt' : Option FieldType} (h : Cond.code y' b' nL' rt' ∈ TB) : GoodIn TB (Cond.code y' b' nL' rt' :: TB) := by
  intro w hw
  rcases List.mem_cons.mp hw with rfl | hw
  · exact ⟨h, good_of_word (TB_good h)⟩
  · exact ⟨hw, good_of_word (TB_good hw)⟩
theorem arr_of {s : State} {cA comp : ClassId} {kA : Class} {ty : FieldType} (h2 : s.vm.classes[cA]? = some kA) (h3 : kA.kind = .array comp ty) : ArrOfT s cA ty := fun n z => ⟨fun k h => (by cases h), kA, h2, comp, h3⟩
set_option maxRecDepth 100000 in
theorem kk_start {s : State} {a : Array Value} (hts : ∀ w ∈ lw_tbl, w.before a s = true) : ∃ (G : va_G) (cy : Nat → ClassId), KK G cy s := by
  have hT : ∀ w ∈ TB, w.before a s = true := fun w hw => hts w (TB_in hw)
  obtain ⟨c0, i0, k0⟩ := u_known (n := 8) hT uwX0 (hts (.instantiable RX0 8) (by decide +kernel))
  obtain ⟨c1, i1, k1⟩ := u_known (n := 3) hT uwX1 (hts (.instantiable RX1 3) (by decide +kernel))
  obtain ⟨c2, i2, k2⟩ := u_known (n := 11) hT uwX2 (hts (.instantiable RX2 11) (by decide +kernel))
  obtain ⟨c3, i3, k3⟩ := u_known (n := 4) hT uwX3 (hts (.instantiable RX3 4) (by decide +kernel))
  obtain ⟨c4, i4, k4⟩ := u_known (n := 5) hT uwX4 (hts (.instantiable RX4 5) (by decide +kernel))
  obtain ⟨c5, i5, k5⟩ := u_known (n := 2) hT uwX5 (hts (.instantiable RX5 2) (by decide +kernel))
  obtain ⟨c6, i6, k6⟩ := u_known (n := 5) hT uwX6 (hts (.instantiable RX6 5) (by decide +kernel))
  obtain ⟨c7, i7, k7⟩ := u_known (n := 5) hT uwX7 (hts (.instantiable RX7 5) (by decide +kernel))
  obtain ⟨c8, i8, k8⟩ := u_known (n := 18) hT uwX8 (hts (.instantiable RX8 18) (by decide +kernel))
  obtain ⟨c9, i9, k9⟩ := u_known (n := 53) hT uwX9 (hts (.instantiable RX9 53) (by decide +kernel))
  obtain ⟨x10, kk10, cm10, f10, g10, e10⟩ := Cond.arrayClass_spec (hts (.arrayClass .int) (by decide +kernel))
  obtain ⟨x11, kk11, cm11, f11, g11, e11⟩ := Cond.arrayClass_spec (hts (.arrayClass .boolean) (by decide +kernel))
  obtain ⟨cm12, x12, kk12, f12, z12, g12, e12, n12⟩ := Cond.arrayOver_spec (hts (.arrayOver (.object RX0)) (by decide +kernel))
  obtain ⟨cm13, x13, kk13, f13, z13, g13, e13, n13⟩ := Cond.arrayOver_spec (hts (.arrayOver (.object RX2)) (by decide +kernel))
  obtain ⟨cm14, x14, kk14, f14, z14, g14, e14, n14⟩ := Cond.arrayOver_spec (hts (.arrayOver (.object RX5)) (by decide +kernel))
  obtain ⟨cm15, x15, kk15, f15, z15, g15, e15, n15⟩ := Cond.arrayOver_spec (hts (.arrayOver (.object RX7)) (by decide +kernel))
  refine ⟨(fun k => if k = 0 then c0 else if k = 1 then c1 else if k = 2 then c2 else if k = 3 then c3 else if k = 4 then c4 else if k = 5 then c5 else if k = 6 then c6 else if k = 7 then c7 else if k = 8 then c8 else c9, fun k => if k = 0 then i0 else if k = 1 then i1 else if k = 2 then i2 else if k = 3 then i3 else if k = 4 then i4 else if k = 5 then i5 else if k = 6 then i6 else if k = 7 then i7 else if k = 8 then i8 else i9), fun k => if k = 10 then x10 else if k = 11 then x11 else if k = 12 then x12 else if k = 13 then x13 else if k = 14 then x14 else x15, ⟨?_, ?_⟩, ?_, va_AO.of (hts (.arrayOver (.object RX0)) (by decide +kernel)), va_AO.of (hts (.arrayOver (.object RX2)) (by decide +kernel)), va_AO.of (hts (.arrayOver (.object RX5)) (by decide +kernel)), va_AO.of (hts (.arrayOver (.object RX7)) (by decide +kernel))⟩
  · intro k q hq
    match k, hq with
    | 0, hq => cases hq; exact k0
    | 1, hq => cases hq; exact k1
    | 2, hq => cases hq; exact k2
    | 3, hq => cases hq; exact k3
    | 4, hq => cases hq; exact k4
    | 5, hq => cases hq; exact k5
    | 6, hq => cases hq; exact k6
    | 7, hq => cases hq; exact k7
    | 8, hq => cases hq; exact k8
    | 9, hq => cases hq; exact k9
    | k + 10, hq => simp [vwCl] at hq
  · intro k q hq
    match k, hq with
    | 0, hq => cases hq; exact ⟨arr_of g10 e10, f10⟩
    | 1, hq => cases hq; exact ⟨arr_of g11 e11, f11⟩
    | 2, hq => cases hq; exact ⟨arr_of g12 e12, ⟨kk12, cm12, g12, e12, f12, n12⟩⟩
    | 3, hq => cases hq; exact ⟨arr_of g13 e13, ⟨kk13, cm13, g13, e13, f13, n13⟩⟩
    | 4, hq => cases hq; exact ⟨arr_of g14 e14, ⟨kk14, cm14, g14, e14, f14, n14⟩⟩
    | 5, hq => cases hq; exact ⟨arr_of g15 e15, ⟨kk15, cm15, g15, e15, f15, n15⟩⟩
    | k + 6, hq => simp [tyK] at hq
  · intro w hw
    have hin : ∀ w ∈ nestW, w ∈ lw_tbl ∧ w.onTables = true := by decide +kernel
    exact va_Nw.of (hin w hw).2 (hts w (hin w hw).1)
theorem pool_mem {cy : Nat → ClassId} {ρ : Nat → Nat} {S : HS} {k : Nat} {q : Nat × va_E} (h : (pool cy ρ S)[k]? = some q) : ∃ a, a ∈ sL S ∧ q.1 = ρ a := by
  unfold pool at h
  rw [List.getElem?_map] at h
  cases e : (sL S)[k]? with
  | none => rw [e] at h; cases h
  | some a =>
    rw [e] at h
    have := Option.some.inj h
    exact ⟨a, List.mem_of_getElem? e, by rw [← this]⟩
theorem pool_in {cy : Nat → ClassId} {ρ : Nat → Nat} {S : HS} {a : Nat} (h : a ∈ sL S) : ∃ (k : Nat) (e : va_E), (pool cy ρ S)[k]? = some (ρ a, e) := by
  obtain ⟨k, hk⟩ := List.getElem?_of_mem h
  exact ⟨k, _, pool_at hk⟩
/-- what never changes while the law runs -/
def Cl (p : Program) (s : State) (m : MethodId) (c : Code) (bs : Nat) : Prop := p.tables.exec = Jvm.exec ∧ c.code = code ∧ c.maxLocals = 4 ∧ s.vm.findClass RL = some m.cls ∧ ∀ w ∈ TB, w.before #[Value.ref bs] s = true
/-- a world S at hand, another T beside it -/
def W2 (G : va_G) (cy : Nat → ClassId) (s : State) (ρ σ : Nat → Nat) (S T : HS) (H : Heap) (locs : List Loc) : Prop := va_P G vwCl (pool cy ρ S) H ∧ va_P G vwCl (pool cy σ T) H ∧ va_D (fun q => s.heap.size ≤ q) (pool cy ρ S) ∧ va_D (fun q => s.heap.size ≤ q) (pool cy σ T) ∧ (∀ a ∈ sL S, ∀ t ∈ sL T, ρ a ≠ σ t) ∧ va_S (fun q => s.heap.size ≤ q) s.heap H locs
theorem W2.swap {G : va_G} {cy : Nat → ClassId} {s : State} {ρ σ : Nat → Nat} {S T : HS} {H : Heap} {locs : List Loc} (h : W2 G cy s ρ σ S T H locs) : W2 G cy s σ ρ T S H locs := ⟨h.2.1, h.1, h.2.2.2.1, h.2.2.1, fun a ha t ht e => h.2.2.2.2.1 t ht a ha e.symm, h.2.2.2.2.2⟩
/-- behind a call in the world at hand -/
theorem W2.behind {G : va_G} {cy : Nat → ClassId} {s : State} {ρ σ ρ' : Nat → Nat} {S T S' : HS} {H H1 : Heap} {locs L : List Loc} (h : W2 G cy s ρ σ S T H locs) (hP1 : va_P G vwCl (pool cy ρ' S') H1) (hD1 : va_D (va_A (pool cy ρ S) H.size) (pool cy ρ' S')) (hz : H.size ≤ H1.size) (hk : ∀ q : Nat, q < H.size → ¬ va_A (pool cy ρ S) H.size q → H1[q]? = H[q]?) (hL : ∀ q ∈ L, va_A (pool cy ρ S) H.size q.base) : W2 G cy s ρ' σ S' T H1 (locs ++ L) := by
  obtain ⟨hP, hP2, hD, hD2, hAp, hS⟩ := h
  have hF : ∀ q, va_A (pool cy ρ S) H.size q → s.heap.size ≤ q := by
    intro q hq
    rcases hq with ⟨i, e1, h1⟩ | h1
    · exact hD.2 i (q, e1) h1
    · exact Nat.le_trans hS.1 h1
  have hN : ∀ t ∈ sL T, ¬ va_A (pool cy ρ S) H.size (σ t) := by
    intro t ht hq
    rcases hq with ⟨i, e1, h1⟩ | h1
    · obtain ⟨a, ha, e⟩ := pool_mem h1
      exact hAp a ha t ht e.symm
    · obtain ⟨k, e, hk⟩ := pool_in (cy := cy) (ρ := σ) ht
      have : σ t < H.size := (hP2 k _ hk).lt
      omega
  refine ⟨hP1, fun i q hi => ?_, hD1.weaken (fun i q _ hz => hF q.1 hz), hD2, fun a ha t ht e => ?_, Nat.le_trans hS.1 hz, fun q h1 h2 => ?_, fun q hq => ?_⟩
  · obtain ⟨t, ht, e⟩ := pool_mem hi
    exact (hP2 i q hi).kept (hk q.1 (hP2 i q hi).lt (by rw [e]; exact hN t ht))
  · obtain ⟨k, x, hk⟩ := pool_in (cy := cy) (ρ := ρ') ha
    exact hN t ht (by rw [← e]; exact hD1.2 k _ hk)
  · rw [hk q (Nat.lt_of_lt_of_le h1 hS.1) (fun z => h2 (hF q z))]
    exact hS.2.1 q h1 h2
  · rcases List.mem_append.mp hq with h9 | h9
    · exact hS.2.2 q h9
    · exact hF _ (hL q h9)
section LAWC
variable {p : Program} {l : Launch} {e : Env} {s : State} {m : MethodId} {below : List Frame} {meth : Method} {c : Code} {bs : Nat} {G : va_G} {cy : Nat → ClassId} {H : Heap} {locs : List Loc} {ls : Array Slot} {pc k n : Nat} {S T : HS} {ρ σ : Nat → Nat} {Z : State → Prop}
theorem law_call (X : Cl p s m c bs) (hK : KK G cy s) (hW : W2 G cy s ρ σ S T H locs) {As rest : List Value} {o idx np ci d' mc' ms' nL' : Nat} {y' : MethodName} {b' : ByteArray} {rt' : Option FieldType} {Q0 : Int32 → HS → Prop} (hd : decode code pc = .ok (.invokevirtual idx, 3)) (hk : LkV RL idx y' b' nL' rt' np ci) (hK0 : tk o = ci) (hC : Cn l G cy y' b' nL' rt' d' (.ref o :: As) S mc' ms' (qI Q0)) (hnp : As.length = np) (hAs : ∀ ρ : Nat → Nat, As.map (rn ρ) = As) (hoA : okS (sL S) As) (ho : o ∈ sL S) (hc : (rest.map fun v => v.category).sum ≤ 8) (hdd : d' ≤ 100) (h1 : k + mc' ≤ 600000) (h2 : n + ms' ≤ 7302250) (hls : ls.size = 4)
    (h : ∀ (r : Int32) (S' : HS) (ρ' : Nat → Nat) (H' : Heap) (locs' : List Loc), Q0 r S' → (∀ t ∈ sL S, ρ' t = ρ t ∧ t ∈ sL S') → W2 G cy s ρ' σ S' T H' locs' → W p l e room_1 s m #[Value.ref bs] below meth c H' locs' (k + mc') (n + ms') Z (F0 m (pc + 3) ls (.int r :: rest))) : W p l e room_1 s m #[Value.ref bs] below meth c H locs k n Z (F0 m pc ls (As.reverse ++ .ref (ρ o) :: rest)) := by
  obtain ⟨hx, hb, hml, hown, hts⟩ := X
  obtain ⟨w1, w2, w3, w4, w5, w6, w7, w8, vq, w9, w10⟩ := hk
  obtain ⟨hP, -, hD, -⟩ := id hW
  obtain ⟨q0, hq0⟩ := List.getElem?_of_mem ho
  have hq := pool_at (cy := cy) (ρ := ρ) hq0
  rw [pf_obj hK0 w8] at hq
  have hre := va_recv hK.1 hP w9 hq
  rw [w10] at hre
  have hcb : CallB room_1 s #[Value.ref bs] RL idx y' b' nL' rt' (Cond.code y' b' nL' rt' :: TB) (rmO d' mc' ms') mc' ms' np := callB_of np hts (TBgoodL w5) rfl rfl rfl (hts _ w4) (hts _ w1) w6 ⟨by show d' + 1 ≤ 2048; omega, by show 8 + (nL' + 11) + 40 * d' ≤ 84000; omega⟩
  have hr := va_runV (p := p) (l := l) (e := e) (R := room_1) (s := s) (m := m) (args := #[Value.ref bs]) (below := below) (meth := meth) (c := c) (H := H) (locs := locs) (cells := k) (slots := n) (As := As.map (rn ρ)) (rest := rest) (b := ρ o) (g := F0 m pc ls (As.reverse ++ .ref (ρ o) :: rest)) ⟨hx, hb, hml, hown, hts⟩ (hC ⟨ho, hoA⟩ H.size ρ) ⟨hcb, hts _ w2, hts _ w3⟩ ⟨Pcn.blind, hre, fun U hU hW => ⟨rfl, by rw [hU], by rw [hU]; exact hP, hK.warm hW, hD.weaken (fun _ _ _ _ => trivial)⟩⟩ rfl (by rw [List.length_map]; exact hnp) hls (by rw [hAs] <;> rfl) (lv_room hc) hd ⟨h1, h2⟩
  intro T0 hT0 hst
  obtain ⟨v, st₀, t, T', L, h0, X', hL, e1, e2, ⟨⟨v', S', ρ', hv, hq', hρ', hLL', hov, hP1, hD1⟩, hz, hk'⟩, stp⟩ := hr T0 hT0 hst
  cases hv
  obtain ⟨r, rfl, hq'⟩ := hq'
  rw [h0] at hz hk'
  rw [← e1] at hz hk' hP1
  obtain ⟨t2, a1, b1⟩ := h r S' ρ' T'.heap (locs ++ L) hq' (fun t ht => ⟨hρ' t ht, hLL' t ht⟩) (hW.behind hP1 hD1 hz hk' hL) T' rfl X'
  exact ⟨t2, stp t2 a1, b1⟩
theorem law_init (X : Cl p s m c bs) (hK : KK G cy s) (hW : W2 G cy s ρ σ S T H locs) {rest : List Value} {o idx d' mc' ms' nL' : Nat} {y' : MethodName} {b' : ByteArray} {Q0 : HS → Prop} (hd : decode code pc = .ok (.invokespecial idx, 3)) (hk : LkI RL idx y' b' nL' 0) (hm : Cond.methodLink RL idx y' ∈ TB) (hC : Cn l G cy y' b' nL' none d' [.ref o] S mc' ms' (qV Q0)) (ho : o ∈ sL S) (hc : (rest.map fun v => v.category).sum ≤ 8) (hdd : d' ≤ 100) (h1 : k + mc' ≤ 600000) (h2 : n + ms' ≤ 7302250) (hls : ls.size = 4)
    (h : ∀ (S' : HS) (ρ' : Nat → Nat) (H' : Heap) (locs' : List Loc), Q0 S' → (∀ t ∈ sL S, ρ' t = ρ t ∧ t ∈ sL S') → W2 G cy s ρ' σ S' T H' locs' → W p l e room_1 s m #[Value.ref bs] below meth c H' locs' (k + mc') (n + ms') Z (F0 m (pc + 3) ls rest)) : W p l e room_1 s m #[Value.ref bs] below meth c H locs k n Z (F0 m pc ls (.ref (ρ o) :: rest)) := by
  obtain ⟨hx, hb, hml, hown, hts⟩ := X
  obtain ⟨-, w2, w4, w5, w6, w7, w8⟩ := hk
  obtain ⟨hP, -, hD, -⟩ := id hW
  have hpre : PreS s H (Pcn G cy ρ [.ref o] S H.size) ((Value.ref (ρ o) :: ([] : List Value).map (rn ρ))) := ⟨Pcn.blind, fun U hU hW => ⟨rfl, by rw [hU], by rw [hU]; exact hP, hK.warm hW, hD.weaken (fun _ _ _ _ => trivial)⟩⟩
  have hcb : CallB room_1 s #[Value.ref bs] RL idx y' b' nL' none (Cond.code y' b' nL' none :: TB) (rmO d' mc' ms') mc' ms' 0 := callB_of 0 hts (TBgoodL w5) rfl rfl rfl (hts _ w4) (hts _ hm) w6 ⟨by show d' + 1 ≤ 2048; omega, by show 8 + (nL' + 11) + 40 * d' ≤ 84000; omega⟩
  have hr := va_runI (p := p) (l := l) (e := e) (R := room_1) (s := s) (m := m) (args := #[Value.ref bs]) (below := below) (meth := meth) (c := c) (H := H) (locs := locs) (cells := k) (slots := n) (As := ([] : List Value).map (rn ρ)) (rest := rest) (b := ρ o) (g := F0 m pc ls (.ref (ρ o) :: rest)) ⟨hx, hb, hml, hown, hts⟩ (hC ⟨ho, trivial⟩ H.size ρ) ⟨hcb, w8, hts _ w2⟩ hpre rfl rfl hls rfl (lv_room hc) hd ⟨h1, h2⟩
  intro T0 hT0 hst
  obtain ⟨v, st₀, t, T', L, h0, X', hL, e1, e2, ⟨⟨v', S', ρ', hv, hq', hρ', hLL', hov, hP1, hD1⟩, hz, hk'⟩, stp⟩ := hr T0 hT0 hst
  cases hv
  obtain ⟨rfl, hq'⟩ := hq'
  rw [h0] at hz hk'
  rw [← e1] at hz hk' hP1
  obtain ⟨t2, a1, b1⟩ := h S' ρ' T'.heap (locs ++ L) hq' (fun t ht => ⟨hρ' t ht, hLL' t ht⟩) (hW.behind hP1 hD1 hz hk' hL) T' rfl X'
  exact ⟨t2, stp t2 a1, b1⟩
/-- a new object of the law: the first of an empty world, another world beside it -/
theorem law_new (X : Cl p s m c bs) (hK : KK G cy s) (hW : W2 G cy s ρ σ ES T H locs) {st : List Value} {o ci idx : Nat} (hd : decode code pc = .ok (.new idx, 3)) (hk : LkN RL idx ci) (ht : tk o = ci) (h1 : k + 1 ≤ 600000) (h2 : n + nF ci ≤ 7302250)
    (h : ∀ (ρ' : Nat → Nat) (H' : Heap), W2 G cy s ρ' σ (newO ES o) T H' locs → W p l e room_1 s m #[Value.ref bs] below meth c H' locs (k + 1) (n + nF ci) Z (F0 m (pc + 3) ls (.ref (ρ' o) :: st))) : W p l e room_1 s m #[Value.ref bs] below meth c H locs k n Z (F0 m pc ls st) := by
  obtain ⟨hx, hb, hml, hown, hts⟩ := X
  obtain ⟨C, Tt, N, ty, ⟨c1, c2, c3, c4, c5, c6, c7⟩, w1, w2, w3⟩ := hk
  subst c2
  obtain ⟨hP, hP2, hD, hD2, hAp, hS⟩ := hW
  refine va_new (A := fun q => s.heap.size ≤ q) (fs := dfs ci) hx hb hts c4 ty c5 hown (hts _ w1) (hts _ w2) (hts _ w3) hK.1 hP2 hD2 hS (fun _ h => h) c1 ?_ h1 h2 hd (fun q H1 hP1 hD1 hS1 => ?_)
  · intro j hj
    have e1 : vp_V (dfs ci) j = if fR ci j = true then Value.null else .int 0 := by simp [vp_V, dfs, List.getD, hj]
    rw [e1]
    rcases c7 j hj with ⟨a1, a2⟩ | ⟨a1, a2⟩
    · rw [a1, a2]; rfl
    · rw [a1, if_pos rfl]
      cases ht : ty j <;> rw [ht] at a2 <;> simp [isRefTy] at a2 <;> rfl
  · have e7 : pool cy (va_up ρ o q) (newO ES o) = [(q, .inr (ci, dfs ci))] := by
      have := pool_push (cy := cy) (ρ := ρ) (ρ' := va_up ρ o q) (S := ES) (S' := newO ES o) (a := o) (q := q) (e := .inr (ci, dfs ci)) rfl (va_up_self _ _ _) (pf_newO ht c3) (fun t' h1 => absurd h1 List.not_mem_nil)
      rw [← this]; rfl
    have hlen : ∀ i x, (pool cy σ T)[i]? = some x → (pool cy σ T ++ [(q, .inr (ci, dfs ci))])[i]? = some x := fun i x hi => by
      rw [List.getElem?_append_left (List.getElem?_eq_some_iff.mp hi).1]; exact hi
    have hlast : (pool cy σ T ++ [(q, .inr (ci, dfs ci))])[(pool cy σ T).length]? = some (q, .inr (ci, dfs ci)) := by simp
    have hone : ∀ (i : Nat) (x : Nat × va_E), (pool cy (va_up ρ o q) (newO ES o))[i]? = some x → x = (q, .inr (ci, dfs ci)) ∧ i = 0 := fun i x hi => by
      rw [e7] at hi
      match i, hi with
      | 0, hi => exact ⟨(Option.some.inj hi).symm, rfl⟩
      | i + 1, hi => simp at hi
    have hw : W2 G cy s (va_up ρ o q) σ (newO ES o) T H1 locs := by
      refine ⟨fun i x hi => ?_, fun i x hi => hP1 i x (hlen i x hi), ⟨fun i j x y hi hj _ => ?_, fun i x hi => ?_⟩, hD2, fun a ha t htm e => ?_, hS1⟩
      · rw [(hone i x hi).1]; exact hP1 _ _ hlast
      · rw [(hone i x hi).2, (hone j y hj).2]
      · rw [(hone i x hi).1]; exact hD1.2 _ _ hlast
      · have ea : a = o := by
          have : a ∈ ([] ++ [o] : List Nat) := ha
          simpa using this
        obtain ⟨kk, x, hkk⟩ := pool_in (cy := cy) (ρ := σ) htm
        rw [ea, va_up_self] at e
        have := hD1.1 _ _ _ _ (hlen kk _ hkk) hlast e.symm
        have hl := (List.getElem?_eq_some_iff.mp hkk).1
        omega
    have := h (va_up ρ o q) H1 hw
    rw [va_up_self] at this
    exact this
/-- a boolean made of an int -/
theorem law_bool (hx : p.tables.exec = Jvm.exec) (hb : c.code = code) {x : Int32} {rest : List Value} (d0 : decode code pc = .ok (.ifCond .eq 7, 3)) (d1 : decode code (pc + 3) = .ok (.iconst 1, 1)) (d2 : decode code (pc + 3 + 1) = .ok (.goto 4, 3)) (d3 : decode code (pc + 7) = .ok (.iconst 0, 1))
    (h : W p l e room_1 s m #[Value.ref bs] below meth c H locs k n Z (F0 m (pc + 8) ls (.int (b2i (¬ x = 0)) :: rest))) : W p l e room_1 s m #[Value.ref bs] below meth c H locs k n Z (F0 m pc ls (.int x :: rest)) := by
  refine lv_if_eq (tgt := pc + 7) hx hb d0 (by omega) (fun q => ?_) (fun q => ?_)
  · refine lv_iconst (v := 0) hx hb d3 (by decide) ?_
    rw [b2i_f (fun z => z q)] at h
    exact h
  · refine lv_iconst (v := 1) hx hb d1 (by decide) ?_
    refine lv_goto (tgt := pc + 8) hx hb d2 (by omega) ?_
    rw [b2i_t q] at h
    exact h
end LAWC
